/** The edges of promises 20 to 28: what is best. */
public final class EdgesOfBest {
    private static final int BEYOND = Edge.BEYOND;
    private static final int NONE = Edge.NONE;
    private static final int LOW = Edge.LOW;
    private static final int HIGH = Edge.HIGH;

    private static void due(long want, long got) {
        Edge.due(want, got);
    }

    public static void main(String[] args) {
        wind();
        seat();
        seatByWind();
        bath();
        bathOfOthers();
        bathNone();
        kind();
        dueOf();
        dueNone();
        jury();
        juryNone();
        juries();
        from();
        fromNone();
        nose();
        noseNone();
        Edge.end();
    }

    /** One with a scent at the first place, and others at the places told. */
    private static NoseJury smelling(int scent, int... places) {
        NoseJury x = Edge.hallOf(0, places);
        x.did(0, 1, scent);
        return x;
    }

    private static void wind() {
        Edge.sentence("The WIND (0 to 4) by which fewest FIND one GUILTY; of several the least. BEYOND.");
        Edge.needsPerson((x, p) -> x.wind(p));
        Edge.changesNothing(Edge::some, x -> x.wind(0));
        // 24 by 5 by 6 is 20, and 28 by 5 by 7: enough for all from here, as long as it isn't halved.
        Edge.onlyAsks(0, () -> smelling(24, 9), x -> x.wind(0));
        Edge.onlyAsks(0, () -> smelling(23, 9, 1), x -> x.wind(0));
        Edge.onlyAsks(1, () -> smelling(24, 9, 17), x -> x.wind(0));
        Edge.onlyAsks(2, () -> smelling(24, 9, 8), x -> x.wind(0));
        Edge.onlyAsks(3, () -> smelling(24, 9, 1), x -> x.wind(0));
        Edge.onlyAsks(4, () -> smelling(24, 9, 10), x -> x.wind(0));
        // Two winds help as much: with the first of them it is.
        Edge.onlyAsks(2, () -> smelling(28, 9, 0), x -> x.wind(0));
        Edge.onlyAsks(1, () -> smelling(28, 9, 18), x -> x.wind(0));
        Edge.onlyAsks(1, () -> smelling(28, 9, 16), x -> x.wind(0));
        Edge.onlyAsks(3, () -> smelling(28, 9, 2), x -> x.wind(0));
        // One above and one below: each wind spares one of them alone. Two above are more.
        Edge.onlyAsks(1, () -> smelling(24, 9, 1, 17), x -> x.wind(0));
        Edge.onlyAsks(3, () -> smelling(24, 9, 1, 17, 1), x -> x.wind(0));
        // No wind helps where all are at one place, though there are seven of them.
        Edge.onlyAsks(0, () -> smelling(99, 9, 9, 9, 9, 9, 9, 9, 9), x -> x.wind(0));
        // The wind that there is now is nothing better.
        NoseJury x = smelling(23, 9, 1);
        x.law(0, 3);
        due(0, x.wind(0));
        due(3, x.now(1));
    }

    private static void seat() {
        Edge.sentence("The PLACE AT which, put there now, fewest FIND one GUILTY; of several the least. BEYOND.");
        Edge.needsPerson((x, p) -> x.seat(p));
        Edge.changesNothing(Edge::some, x -> x.seat(0));
        // 24 is too much for those 1 apart, 23 for those at the place alone.
        Edge.onlyAsks(0, () -> smelling(99, 30), x -> x.seat(0));
        Edge.onlyAsks(0, () -> smelling(19, 30, 0), x -> x.seat(0));
        Edge.onlyAsks(1, () -> smelling(23, 0, 0), x -> x.seat(0));
        Edge.onlyAsks(2, () -> smelling(24, 0, 0), x -> x.seat(0));
        Edge.onlyAsks(0, () -> smelling(24, 0, 47), x -> x.seat(0));
        // 67 by 5 by 16 is 20, and by 17 it is 19: only the last place is far enough. With 68 none is.
        Edge.onlyAsks(47, () -> smelling(67, 0, 0), x -> x.seat(0));
        Edge.onlyAsks(0, () -> smelling(68, 0, 0), x -> x.seat(0));
        Edge.onlyAsks(0, () -> smelling(67, 47, 47), x -> x.seat(0));
        // From 7 no place is more than 12 apart: below the last row there is none.
        Edge.onlyAsks(0, () -> smelling(68, 7, 7), x -> x.seat(0));
        // Not nobody, but fewest: away from two of three.
        Edge.onlyAsks(0, () -> smelling(60, 20, 0, 47, 47), x -> x.seat(0));
        Edge.onlyAsks(39, () -> smelling(60, 20, 0, 0, 47), x -> x.seat(0));
        // A barrister spares who is beside.
        NoseJury x = smelling(99, 20, 47);
        x.set(1, 2, 9);
        x.turn(1, 2);
        due(39, x.seat(0));
        due(20, x.of(0, 1));
    }

    private static void seatByWind() {
        NoseJury x = smelling(24, 30, 0);
        x.law(0, 2);
        // Half of 20 in the next column.
        due(1, x.seat(0));
        x.law(0, 4);
        // Twice 10 at 7 and at 14, twice 9 at 15; 8 in its column has 20.
        due(15, x.seat(0));
    }

    private static void bath() {
        Edge.sentence("The one (also itself) whose washing now lets fewest FIND one GUILTY ON 1 HOUR");
        Edge.needsPerson((x, p) -> x.bath(p));
        // 27 is 24 in an hour, of which 20 are smelt; 26 is 23 then, of which 19 are.
        Edge.onlyAsks(0, () -> smelling(27, 0, 1), x -> x.bath(0));
        Edge.refused(NONE, () -> smelling(26, 0, 1), x -> x.bath(0));
        // A third of 80 is 26, of 81 is 27.
        Edge.onlyAsks(0, () -> smelling(80, 0, 1), x -> x.bath(0));
        Edge.refused(NONE, () -> smelling(81, 0, 1), x -> x.bath(0));
        // Fewer is enough: one of two is too far for what is left of 81.
        Edge.onlyAsks(0, () -> smelling(81, 0, 1, 9), x -> x.bath(0));
        // The last one of eight, too.
        NoseJury x = Edge.hallOf(0, 0, 0, 0, 0, 0, 0, 0, 1);
        x.did(7, 1, 40);
        due(7, x.bath(7));
        due(40, x.scent(7, 1, 0));
        due(0, x.now(0));
    }

    /** The second has what will cling to the first; a third one smells it from beside. */
    private static NoseJury beside(int own, int others) {
        NoseJury x = Edge.hallOf(0, 0, 0, 1);
        x.did(0, 1, own);
        x.did(1, 1, others);
        x.set(1, 3, 1);
        return x;
    }

    private static void bathOfOthers() {
        Edge.sentence("whose washing now lets fewest FIND one GUILTY ON 1 HOUR");
        // A quarter of 96 is 24, of which 20 are smelt; of 95 it is 23.
        Edge.onlyAsks(1, () -> beside(0, 96), x -> x.bath(0));
        Edge.refused(NONE, () -> beside(0, 95), x -> x.bath(0));
        // Of one's own 26 are 23 left, of 27 they are 24: then the other one's washing is not enough.
        Edge.onlyAsks(1, () -> beside(26, 96), x -> x.bath(0));
        Edge.refused(NONE, () -> beside(27, 96), x -> x.bath(0));
        Edge.onlyAsks(0, () -> beside(27, 95), x -> x.bath(0));
    }

    private static void bathNone() {
        Edge.sentence("fewer than as it is; of several the least. BEYOND. NONE.");
        // Now the other one finds it guilty, but in an hour nobody does: no washing is needed for that.
        NoseJury x = smelling(26, 0, 1);
        due(2, x.guilty(0));
        due(NONE, x.bath(0));
        Edge.refused(NONE, () -> smelling(0, 0, 1), y -> y.bath(0));
        Edge.refused(NONE, () -> smelling(99, 0), y -> y.bath(0));
        // Now nobody does, but in an hour, which is odd, a perfumer gives off all.
        NoseJury y = smelling(50, 0, 1);
        y.turn(0, 4);
        due(0, y.guilty(0));
        due(0, y.bath(0));
        y.hours(1);
        y.did(0, 1, 50);
        due(2, y.guilty(0));
        due(NONE, y.bath(0));
    }

    /** One of a kind with a scent, with one beside it, in an even or odd hour. */
    private static int bestKind(int kind, int deed, int scent, int hour) {
        NoseJury x = Edge.hallOf(kind, 0);
        x.person(0, 1);
        if (hour > 0) {
            x.hours(hour);
        }
        x.did(0, deed, scent);
        int best = x.kind(0);
        due(kind, x.of(0, 0));
        return best;
    }

    private static void kind() {
        Edge.sentence("The KIND as one of which fewest FIND one GUILTY; of several the least. BEYOND.");
        Edge.needsPerson((x, p) -> x.kind(p));
        Edge.changesNothing(Edge::some, x -> x.kind(0));
        for (int kind = 0; kind < 6; kind++) {
            // 24 must be given off for 20 to be smelt.
            due(0, bestKind(kind, 0, 23, 0));
            due(1, bestKind(kind, 0, 24, 0));
            due(1, bestKind(kind, 0, 99, 1));
            due(0, bestKind(kind, 1, 23, 0));
            due(2, bestKind(kind, 1, 24, 0));
            due(2, bestKind(kind, 1, 33, 0));
            due(4, bestKind(kind, 1, 34, 0));
            due(4, bestKind(kind, 1, 57, 0));
            due(0, bestKind(kind, 1, 58, 0));
            due(2, bestKind(kind, 5, 33, 1));
            due(0, bestKind(kind, 5, 34, 1));
        }
        Edge.onlyAsks(0, () -> Edge.hallOf(5, 0), x -> x.kind(0));
    }

    private static void dueOf() {
        Edge.sentence("The least DUE (1 to 99) with which nobody FINDS one GUILTY. BEYOND.");
        Edge.needsPerson((x, p) -> x.due(p));
        Edge.onlyAsks(1, () -> smelling(99, 0), x -> x.due(0));
        Edge.onlyAsks(1, () -> smelling(0, 0, 0), x -> x.due(0));
        Edge.onlyAsks(2, () -> smelling(1, 0, 0), x -> x.due(0));
        Edge.onlyAsks(20, () -> smelling(19, 0, 0), x -> x.due(0));
        Edge.onlyAsks(99, () -> smelling(98, 0, 0), x -> x.due(0));
        // It is the nose that smells most which tells it.
        NoseJury x = smelling(30, 0, 0, 1, 9);
        due(31, x.due(0));
        x.law(1, 99);
        due(31, x.due(0));
        due(99, x.now(2));
        // A barrister beside finds none guilty with any.
        x.turn(1, 2);
        due(26, x.due(0));
    }

    private static void dueNone() {
        Edge.sentence("NONE: with none.");
        Edge.refused(NONE, () -> smelling(99, 0, 0), x -> x.due(0));
        NoseJury x = smelling(98, 0, 0);
        x.set(1, 2, 9);
        due(NONE, x.due(0));
        x.set(1, 2, 5);
        due(99, x.due(0));
    }

    /** Those of the set find the first of so many guilty; all others have colds. */
    private static NoseJury found(int people, int finders) {
        NoseJury x = new NoseJury();
        for (int p = 0; p < people; p++) {
            x.person(0, 0);
            x.set(p, 3, (finders >> p & 1) == 0 ? 1 : 0);
        }
        x.did(0, 0, 99);
        return x;
    }

    private static void jury() {
        Edge.sentence("The JURY of just n (1 to 7) of the others that CONVICTS one; of several the least set. BEYOND.");
        Edge.needsPerson((x, p) -> x.jury(p, 1));
        Edge.refused(BEYOND, Edge::some, (x, v) -> x.jury(0, v), 0, -1, 8, LOW, HIGH);
        Edge.refused(BEYOND, Edge::full, (x, v) -> x.jury(0, v), 0, 8);
        int[] least = {0, 2, 6, 14, 30, 62, 126, 254};
        for (int n = 1; n <= 7; n++) {
            int want = n;
            Edge.onlyAsks(least[n], () -> found(8, 254), x -> x.jury(0, want));
        }
        // 6 and 7 alone find it guilty: with one more they are two of three.
        Edge.onlyAsks(64, () -> found(8, 192), x -> x.jury(0, 1));
        Edge.onlyAsks(192, () -> found(8, 192), x -> x.jury(0, 2));
        Edge.onlyAsks(194, () -> found(8, 192), x -> x.jury(0, 3));
        Edge.refused(NONE, () -> found(8, 192), x -> x.jury(0, 4));
        // Of the others it is, also where the one is in the middle of them.
        NoseJury x = found(4, 15);
        x.did(1, 0, 99);
        due(1, x.jury(1, 1));
        due(5, x.jury(1, 2));
        due(13, x.jury(1, 3));
    }

    private static void juryNone() {
        Edge.sentence("NONE: none does.");
        // There are not so many others; all of them are enough.
        Edge.refused(NONE, () -> found(4, 14), (x, v) -> x.jury(0, v), 4, 5, 6, 7);
        Edge.onlyAsks(14, () -> found(4, 14), x -> x.jury(0, 3));
        Edge.refused(NONE, () -> found(1, 1), (x, v) -> x.jury(0, v), 1, 7);
        Edge.refused(NONE, () -> found(8, 0), (x, v) -> x.jury(0, v), 1, 2, 7);
        // One is all of one, but half of two.
        Edge.onlyAsks(16, () -> found(8, 16), x -> x.jury(0, 1));
        Edge.refused(NONE, () -> found(8, 16), x -> x.jury(0, 2));
        // Four of seven are more than half, three are not.
        Edge.onlyAsks(254, () -> found(8, 30), x -> x.jury(0, 7));
        Edge.refused(NONE, () -> found(8, 14), x -> x.jury(0, 7));
    }

    private static void juries() {
        Edge.sentence("How many JURIES of just n (1 to 7) of the others CONVICT one. BEYOND.");
        Edge.needsPerson((x, p) -> x.juries(p, 1));
        Edge.refused(BEYOND, Edge::some, (x, v) -> x.juries(0, v), 0, -1, 8, LOW, HIGH);
        Edge.refused(BEYOND, Edge::full, (x, v) -> x.juries(0, v), 0, 8);
        int[] ofAll = {0, 7, 21, 35, 35, 21, 7, 1};
        // With four who find it guilty, and three who don't.
        int[] ofFour = {0, 4, 6, 4 + 6 * 3, 1 + 4 * 3, 1 * 3 + 4 * 3, 1 * 3, 1};
        for (int n = 1; n <= 7; n++) {
            int want = n;
            Edge.onlyAsks(ofAll[n], () -> found(8, 254), x -> x.juries(0, want));
            Edge.onlyAsks(ofFour[n], () -> found(8, 30), x -> x.juries(0, want));
            Edge.onlyAsks(0, () -> found(8, 0), x -> x.juries(0, want));
            Edge.onlyAsks(0, () -> found(1, 1), x -> x.juries(0, want));
        }
        // Of the others, where the one is the last of them, or in their middle.
        NoseJury last = Edge.hallOf(0, 0, 0, 0, 0, 0, 0, 0, 0);
        last.did(7, 0, 99);
        last.did(3, 0, 99);
        for (int n = 1; n <= 7; n++) {
            due(ofAll[n], last.juries(7, n));
            due(ofAll[n], last.juries(3, n));
        }
        // None is no finding here.
        Edge.onlyAsks(1, () -> found(4, 14), x -> x.juries(0, 3));
        Edge.onlyAsks(0, () -> found(4, 14), x -> x.juries(0, 4));
    }

    private static void from() {
        Edge.sentence("AT its PLACE, with the greatest SCENT of it, that CLINGS in the HOUR that goes next; of several the least. "
            + "BEYOND: person, deed.");
        Edge.needsPerson((x, p) -> x.from(p, 0));
        Edge.refused(BEYOND, Edge::some, (x, v) -> x.from(0, v), -1, 6, LOW, HIGH);
        NoseJury x = Edge.hallOf(0, 5, 5, 5, 5, 6);
        for (int deed = 0; deed <= 5; deed++) {
            x.did(3, deed, 40);
            due(3, x.from(0, deed));
            x.did(2, deed, 40);
            due(2, x.from(0, deed));
            x.did(1, deed, 39);
            due(2, x.from(0, deed));
            x.did(3, deed, 41);
            due(3, x.from(0, deed));
            // Who has most, but is elsewhere, gives nothing.
            x.did(4, deed, 99);
            due(3, x.from(0, deed));
        }
        // The greatest of the others, though one's own is greater, is one that doesn't cling.
        due(NONE, x.from(3, 0));
        Edge.onlyAsks(0, () -> smelling(99, 9, 9), y -> y.from(1, 1));
        Edge.onlyAsks(7, () -> {
            NoseJury y = Edge.hallOf(0, 9, 9, 9, 9, 9, 9, 9, 9);
            y.did(7, 5, 4);
            return y;
        }, y -> y.from(0, 5));
    }

    private static void fromNone() {
        Edge.sentence("NONE: none CLINGS.");
        Edge.refused(NONE, () -> smelling(99, 9), x -> x.from(0, 1));
        Edge.refused(NONE, () -> smelling(99, 9, 10), x -> x.from(1, 1));
        Edge.refused(NONE, () -> smelling(3, 9, 9), x -> x.from(1, 1));
        Edge.onlyAsks(0, () -> smelling(4, 9, 9), x -> x.from(1, 1));
        Edge.refused(NONE, () -> smelling(4, 9, 9), x -> x.from(1, 2));
        // 80 gives 20: of 22 are 19 left, of 23 they are 20, which is as much already.
        NoseJury x = smelling(80, 9, 9);
        x.did(1, 1, 22);
        due(0, x.from(1, 1));
        x.did(1, 1, 23);
        due(NONE, x.from(1, 1));
        x.did(0, 5, 80);
        x.did(1, 5, 38);
        due(0, x.from(1, 5));
        x.did(1, 5, 39);
        due(NONE, x.from(1, 5));
    }

    private static void nose() {
        Edge.sentence("The least NOSE (0 to 9) with which one FINDS another one GUILTY (without a COLD). "
            + "BEYOND: also one and the same.");
        Edge.needsPerson((x, p) -> x.nose(p, 0));
        Edge.needsPerson((x, p) -> x.nose(0, p));
        for (int p = 0; p < Edge.SOME; p++) {
            Edge.refused(BEYOND, Edge::some, (x, v) -> x.nose(v, v), p);
        }
        Edge.changesNothing(Edge::some, x -> x.nose(3, 0));
        // At one place so many times the scent must be 100.
        int[] scents = {99, 50, 49, 34, 33, 25, 24, 20, 19, 17, 16, 15, 14, 13, 12};
        int[] noses = {2, 2, 3, 3, 4, 4, 5, 5, 6, 6, 7, 7, 8, 8, 9};
        for (int k = 0; k < scents.length; k++) {
            NoseJury x = smelling(scents[k], 9, 9);
            due(noses[k], x.nose(1, 0));
            x.set(1, 2, noses[k]);
            due(2, x.guilty(0));
            x.set(1, 2, noses[k] - 1);
            due(0, x.guilty(0));
        }
        // The cold is not asked, and stays.
        NoseJury y = smelling(99, 9, 9);
        y.set(1, 3, 1);
        y.set(1, 2, 0);
        due(2, y.nose(1, 0));
        due(1, y.of(1, 3));
        due(0, y.of(1, 2));
        y.law(1, 1);
        due(1, y.nose(1, 0));
    }

    private static void noseNone() {
        Edge.sentence("NONE: with none.");
        // 12 times 9 is 108, 11 times 9 is 99.
        Edge.onlyAsks(9, () -> smelling(12, 9, 9), x -> x.nose(1, 0));
        Edge.refused(NONE, () -> smelling(11, 9, 9), x -> x.nose(1, 0));
        Edge.refused(NONE, () -> smelling(0, 9, 9), x -> x.nose(1, 0));
        // A barrister beside, and a cook at the place, with any nose.
        NoseJury x = smelling(99, 9, 9);
        x.turn(1, 1);
        due(NONE, x.nose(1, 0));
        x.set(1, 1, 10);
        due(2, x.nose(1, 0));
        x.turn(1, 4);
        due(NONE, x.nose(1, 0));
        x.set(1, 1, 11);
        due(2, x.nose(1, 0));
    }
}
