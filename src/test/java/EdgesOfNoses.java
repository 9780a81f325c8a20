/** The edges of promises 12 to 19: noses. */
public final class EdgesOfNoses {
    private static final int BEYOND = Edge.BEYOND;
    private static final int NONE = Edge.NONE;
    private static final int STATE = Edge.STATE;
    private static final int LOW = Edge.LOW;
    private static final int HIGH = Edge.HIGH;

    private static void due(long want, long got) {
        Edge.due(want, got);
    }

    public static void main(String[] args) {
        smells();
        deed();
        deedNone();
        guilty();
        convicts();
        hours();
        hoursState();
        now();
        on();
        clean();
        cleanNone();
        Edge.end();
    }

    private static void smells() {
        Edge.sentence("What one SMELLS of a DEED of another one. BEYOND: also one and the same.");
        // The dog, 2 apart and downwind: 71 by 5 by 7 is 50, twice twice that. The other way 66 by 5 by 7 is 47, half of it.
        Edge.onlyAsks(200, Edge::some, x -> x.smells(3, 0, 0));
        Edge.onlyAsks(23, Edge::some, x -> x.smells(0, 3, 3));
        Edge.onlyAsks(0, Edge::some, x -> x.smells(2, 0, 0));
        Edge.onlyAsks(0, Edge::some, x -> x.smells(1, 0, 0));
        Edge.needsPerson((x, p) -> x.smells(p, 0, 0));
        Edge.needsPerson((x, p) -> x.smells(0, p, 0));
        for (int p = 0; p < Edge.SOME; p++) {
            Edge.refused(BEYOND, Edge::some, (x, v) -> x.smells(v, v, 0), p);
        }
        Edge.refused(BEYOND, Edge::some, (x, v) -> x.smells(3, 0, v), -1, 6, LOW, HIGH);
        // The least and the most that there is to smell: a dog's 148 by 9 by 5 is 266, to a hound 535.
        NoseJury x = Edge.hallOf(3, 0);
        x.person(5, 0);
        x.did(0, 5, 99);
        x.set(1, 2, 9);
        due(535, x.smells(1, 0, 5));
        x.set(0, 1, 8);
        x.law(0, 1);
        due(2 * (2 * (148 * 9 / 6) + 3), x.smells(1, 0, 5));
        x.set(1, 2, 0);
        due(0, x.smells(1, 0, 5));
    }

    private static void deed() {
        Edge.sentence("The DEED of another one of which one SMELLS most; of several the least.");
        NoseJury x = Edge.hallOf(0, 0, 1);
        for (int deed = 5; deed >= 0; deed--) {
            x.did(1, deed, 50);
            due(deed, x.deed(0, 1));
        }
        x.did(1, 5, 51);
        // 50 by 5 by 6 is 41, and of 51 it is 42.
        due(5, x.deed(0, 1));
        // 54 and 55 smell alike, as 45: the least it is, though its scent is less.
        x.did(1, 3, 54);
        x.did(1, 5, 55);
        due(3, x.deed(0, 1));
        Edge.onlyAsks(0, Edge::some, y -> y.deed(3, 0));
        // A cook gives nothing off of deed 0.
        Edge.onlyAsks(2, Edge::some, y -> y.deed(3, 1));
        Edge.needsPerson((y, p) -> y.deed(p, 0));
        Edge.needsPerson((y, p) -> y.deed(0, p));
        for (int p = 0; p < Edge.SOME; p++) {
            Edge.refused(BEYOND, Edge::some, (y, v) -> y.deed(v, v), p);
        }
    }

    private static void deedNone() {
        Edge.sentence("NONE: it SMELLS none.");
        Edge.refused(NONE, Edge::some, x -> x.deed(2, 0));
        Edge.refused(NONE, Edge::some, x -> x.deed(0, 2));
        Edge.refused(NONE, Edge::some, x -> x.deed(1, 0));
        // Of 1 nothing is smelt from a place beside, of 2 just 1.
        NoseJury x = Edge.hallOf(0, 0, 1);
        for (int deed = 0; deed <= 5; deed++) {
            x.did(1, deed, 1);
        }
        due(NONE, x.deed(0, 1));
        x.did(1, 4, 2);
        due(4, x.deed(0, 1));
        // Half of 1 is nothing, too.
        x.law(0, 2);
        due(NONE, x.deed(0, 1));
        x.law(0, 4);
        due(4, x.deed(0, 1));
        x.set(0, 2, 0);
        due(NONE, x.deed(0, 1));
    }

    private static void guilty() {
        Edge.sentence("Those who FIND one GUILTY, as a set. BEYOND.");
        // The cook is at its place, the barrister has a cold, the other three are downwind.
        Edge.onlyAsks(8 + 16 + 32, Edge::some, x -> x.guilty(0));
        Edge.onlyAsks(0, Edge::some, x -> x.guilty(2));
        Edge.needsPerson((x, p) -> x.guilty(p));
        // Nobody is there but it: the set is empty, no finding.
        NoseJury alone = Edge.hallOf(3, 0);
        alone.did(0, 0, 99);
        due(0, alone.guilty(0));
        due(0, alone.status(-1));
        // Each of the eight has all the others.
        NoseJury x = Edge.hallOf(0, 0, 0, 0, 0, 0, 0, 0, 0);
        for (int p = 0; p < 8; p++) {
            x.did(p, 0, 20);
        }
        for (int p = 0; p < 8; p++) {
            due(255 - (1 << p), x.guilty(p));
        }
        x.law(1, 21);
        for (int p = 0; p < 8; p++) {
            due(0, x.guilty(p));
        }
    }

    private static void convicts() {
        Edge.sentence("1 if a JURY CONVICTS one, else 0.");
        Edge.onlyAsks(1, Edge::some, x -> x.convicts(8 + 16 + 32, 0));
        Edge.onlyAsks(1, Edge::some, x -> x.convicts(8 + 16 + 4, 0));
        Edge.onlyAsks(0, Edge::some, x -> x.convicts(8 + 4, 0));
        Edge.onlyAsks(0, Edge::some, x -> x.convicts(4, 0));
        Edge.sentence("BEYOND: jury (a set of such that there are, not empty), person.");
        Edge.refused(BEYOND, Edge::some, (x, v) -> x.convicts(v, 0), 0, 64, 64 + 2, 128, 256, 1 << 30, -1, -2, LOW, HIGH);
        Edge.refused(BEYOND, Edge::full, (x, v) -> x.convicts(v, 0), 0, 256, 256 + 2, 511, LOW + 2);
        Edge.refused(BEYOND, NoseJury::new, (x, v) -> x.convicts(v, 0), 0, 1, 2, 255, -1);
        Edge.needsPerson((x, p) -> x.convicts(2, p));
        // The hound is the last that there is.
        Edge.onlyAsks(1, Edge::some, x -> x.convicts(32, 1));
        due(0, Edge.full().convicts(128, 0));
        Edge.sentence("STATE: it is of the JURY.");
        Edge.refused(STATE, Edge::some, (x, v) -> x.convicts(v, 0), 1, 3, 33, 63);
        Edge.refused(STATE, Edge::some, (x, v) -> x.convicts(1 << v, v), 1, 2, 3, 4, 5);
        Edge.refused(STATE, Edge::full, (x, v) -> x.convicts(255, v), 0, 7);
        Edge.onlyAsks(0, Edge::some, x -> x.convicts(63 - 4, 2));
    }

    private static void hours() {
        Edge.sentence("n HOURS go (1 to 60): SCENTS of all together then. BEYOND.");
        Edge.refused(BEYOND, Edge::some, (x, v) -> x.hours(v), 0, -1, 61, LOW, HIGH);
        Edge.refused(BEYOND, Edge::late, (x, v) -> x.hours(v), 0, 61, LOW, HIGH);
        NoseJury x = Edge.hallOf(0, 0, 1);
        x.did(0, 0, 99);
        x.did(1, 5, 99);
        due(89 + 50, x.hours(1));
        due(89 + 50, x.now(3));
        due(1, x.hours(60));
        due(61, x.now(0));
        // Many hours at once are as many by themselves.
        Edge.comesToTheSame(Edge::some, y -> y.hours(5), y -> {
            for (int i = 0; i < 5; i++) {
                y.hours(1);
            }
            return 0;
        });
    }

    private static void hoursState() {
        Edge.sentence("STATE: HOUR would be above 9999.");
        Edge.refused(STATE, Edge::late, (x, v) -> x.hours(v), 10, 11, 60);
        NoseJury x = Edge.late();
        // 99 is 35 then, and of deed 5 it is 1.
        due(35 + 1, x.hours(9));
        due(9999, x.now(0));
        due(STATE, x.hours(1));
        due(STATE, x.hours(60));
        due(BEYOND, x.hours(0));
        due(9999, x.now(0));
        // In this hour, which is odd, a perfumer gives off all.
        x.did(0, 0, 50);
        due(40, x.scent(0, 0, 1));
    }

    private static void now() {
        Edge.sentence("What 0 HOUR, 1 WIND, 2 DUE, 3 SCENTS of all together, 4 those whom anybody FINDS GUILTY, as a set. BEYOND.");
        int[] want = {1, 2, 15, 71 + 21 + 7 + 53 + 26 + 10 + 44 + 63 + 33};
        for (int what = 0; what < want.length; what++) {
            int w = what;
            Edge.onlyAsks(want[what], Edge::some, x -> x.now(w));
        }
        Edge.changesNothing(Edge::some, x -> x.now(4));
        Edge.refused(BEYOND, Edge::some, (x, v) -> x.now(v), -1, 5, LOW, HIGH);
        Edge.refused(BEYOND, NoseJury::new, (x, v) -> x.now(v), -1, 5);
        // Just one nose that is good enough makes one guilty.
        NoseJury x = Edge.hallOf(0, 0, 0, 0);
        x.did(2, 5, 20);
        x.set(0, 2, 4);
        due(4, x.now(4));
        x.set(1, 2, 4);
        due(0, x.now(4));
        // The most: eight with 99 of each deed.
        NoseJury y = Edge.hallOf(0, 0, 0, 0, 0, 0, 0, 0, 0);
        for (int p = 0; p < 8; p++) {
            for (int deed = 0; deed <= 5; deed++) {
                y.did(p, deed, 99);
            }
        }
        due(8 * 6 * 99, y.now(3));
        due(255, y.now(4));
    }

    private static void on() {
        Edge.sentence("SCENT of a DEED of one ON n HOURS (0 to 60). BEYOND.");
        Edge.onlyAsks(71, Edge::some, x -> x.on(0, 0, 0));
        Edge.onlyAsks(63, Edge::some, x -> x.on(0, 0, 1));
        Edge.onlyAsks(1, Edge::some, x -> x.on(0, 5, 60));
        Edge.refused(BEYOND, Edge::some, (x, v) -> x.on(0, 0, v), -1, 61, LOW, HIGH);
        Edge.refused(BEYOND, Edge::some, (x, v) -> x.on(0, v, 0), -1, 6, LOW, HIGH);
        Edge.needsPerson((x, p) -> x.on(p, 0, 0));
        // As it is told, so it comes.
        int[] hours = {1, 2, 7, 60};
        for (int n : hours) {
            NoseJury x = Edge.some();
            NoseJury y = Edge.some();
            y.hours(n);
            for (int p = 0; p < Edge.SOME; p++) {
                for (int deed = 0; deed <= 5; deed++) {
                    due(y.scent(p, deed, 0), x.on(p, deed, n));
                }
            }
        }
    }

    /** Two at one place, with the least that is due and a scent of the first. */
    private static NoseJury strict(int deed, int scent) {
        NoseJury x = Edge.hallOf(0, 0, 0);
        x.law(1, 1);
        x.did(0, deed, scent);
        return x;
    }

    private static void clean() {
        Edge.sentence("In how many HOURS (0 to 60) ON nobody FINDS one GUILTY first. BEYOND.");
        Edge.onlyAsks(0, Edge::some, x -> x.clean(2));
        Edge.changesNothing(Edge::some, x -> x.clean(0));
        Edge.needsPerson((x, p) -> x.clean(p));
        Edge.onlyAsks(0, () -> strict(0, 0), x -> x.clean(0));
        Edge.onlyAsks(1, () -> strict(0, 1), x -> x.clean(0));
        Edge.onlyAsks(2, () -> strict(4, 2), x -> x.clean(0));
        // 99, 89, 80, .. 2, 1 are 27: there is no scent that takes longer and goes.
        Edge.onlyAsks(27, () -> strict(0, 99), x -> x.clean(0));
        // An hour later what clings has made it guilty: a quarter of 99.
        NoseJury x = Edge.hallOf(0, 0, 0, 1);
        x.law(1, 19);
        x.did(0, 0, 10);
        x.did(1, 0, 99);
        x.set(1, 3, 1);
        // 24 by 5 by 6 is 20; 22 is 18.
        due(0, x.clean(0));
        x.hours(1);
        due(1, x.clean(0));
        // The first hour counts, though it is guilty later again: a perfumer at even hours.
        NoseJury y = Edge.hallOf(4, 0);
        y.person(0, 2);
        y.hours(1);
        y.did(0, 0, 50);
        due(2, y.guilty(0));
        due(1, y.clean(0));
        y.hours(1);
        due(0, y.clean(0));
        y.hours(1);
        due(2, y.guilty(0));
        // At the last hours of all the next ones are looked at all the same.
        NoseJury z = Edge.late();
        z.hours(9);
        z.turn(0, 0);
        z.turn(1, 0);
        z.did(0, 5, 0);
        z.did(0, 0, 30);
        due(2, z.clean(0));
    }

    private static void cleanNone() {
        Edge.sentence("NONE.");
        // Of deed 5 always 1 is left; as soon as that is not enough it goes.
        Edge.refused(NONE, () -> strict(5, 1), x -> x.clean(0));
        Edge.refused(NONE, () -> strict(5, 99), x -> x.clean(0));
        NoseJury x = strict(5, 99);
        x.law(1, 2);
        due(7, x.clean(0));
        x.law(1, 1);
        x.set(1, 2, 4);
        due(7, x.clean(0));
    }
}
