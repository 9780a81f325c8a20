/** The edges of promises 38 to 42: images, and what is counted. */
public final class EdgesOfImages {
    private static final int BEYOND = Edge.BEYOND;
    private static final int FULL = Edge.FULL;
    private static final int KIND = Edge.KIND;
    private static final int NONE = Edge.NONE;
    private static final int STATE = Edge.STATE;
    private static final int MISSING = Edge.MISSING;
    private static final int SIZE = Edge.SIZE;
    private static final int LOW = Edge.LOW;
    private static final int HIGH = Edge.HIGH;

    private static void due(long want, long got) {
        Edge.due(want, got);
    }

    public static void main(String[] args) {
        image();
        imageOfSectionOneAlone();
        undo();
        undoNone();
        tear();
        count();
        status();
        statusOfEach();
        statusBeyond();
        statusStays();
        manyFindings();
        Edge.end();
    }

    private static void image() {
        Edge.sentence("All that section 1 tells (THE TAPE not) is kept: 1.");
        due(1, new NoseJury().image());
        NoseJury x = Edge.hallOf(2, 3, 4);
        x.did(0, 0, 99);
        x.did(1, 5, 99);
        x.set(1, 2, 9);
        x.set(1, 3, 1);
        x.law(0, 4);
        x.law(1, 99);
        x.hours(1);
        due(1, x.image());
        // Each of what is kept becomes another thing.
        x.turn(0, 5);
        x.set(0, 1, 47);
        x.set(1, 2, 0);
        x.set(1, 3, 0);
        x.did(0, 0, 1);
        x.did(1, 5, 2);
        x.did(1, 2, 3);
        x.law(0, 1);
        x.law(1, 1);
        x.hours(2);
        x.person(0, 0);
        due(2, x.undo());
        due(2, x.count(0));
        due(2, x.of(0, 0));
        due(3, x.of(0, 1));
        due(9, x.of(1, 2));
        due(1, x.of(1, 3));
        due(89, x.scent(0, 0, 0));
        due(50, x.scent(1, 5, 0));
        due(139, x.now(3));
        due(1, x.now(0));
        due(4, x.now(1));
        due(99, x.now(2));
    }

    private static void imageOfSectionOneAlone() {
        Edge.sentence("(THE TAPE not)");
        NoseJury x = Edge.hallOf(0, 3);
        x.sheet(0, 8, 1);
        x.write(0, 0, 7);
        x.sheet(1, 8, 1);
        Edge.feedText(x, "wind 1");
        x.image();
        // The tape and the sheets are now as they have become since.
        x.write(0, 0, 8);
        x.sheet(1, 0, 0);
        x.sheet(2, 64, 1);
        Edge.feedText(x, ";due 7");
        due(1, x.undo());
        due(12, x.count(1));
        due(8, x.write(0, 0, 0));
        due(MISSING, x.write(1, 0, 0));
        due(0, x.write(2, 0, 0));
        due(2, x.hall());
        due(1, x.now(1));
        due(7, x.now(2));
    }

    private static void undo() {
        Edge.sentence("It becomes what was kept latest (which stays): how many PEOPLE.");
        NoseJury x = new NoseJury();
        x.image();
        for (int p = 0; p < 8; p++) {
            x.person(p % 6, p);
        }
        due(0, x.undo());
        due(0, x.count(0));
        due(BEYOND, x.of(0, 0));
        // It stays, and is not what is done after undo().
        x.person(0, 1);
        x.law(0, 3);
        due(0, x.undo());
        due(0, x.now(1));
        // The latest of several.
        x.person(0, 1);
        x.image();
        x.person(0, 2);
        x.image();
        x.person(0, 3);
        due(2, x.undo());
        due(2, x.undo());
        // All of eight.
        NoseJury y = Edge.full();
        y.wash(0);
        y.hours(60);
        due(8, y.undo());
        due(8 * 99 - 28, y.now(3));
        // What is kept isn't touched by what hours and acts do to what there is.
        Edge.comesToTheSame(Edge::some, z -> {
            z.undo();
            z.hours(3);
            z.turn(0, 5);
            z.set(1, 1, 30);
            return z.undo();
        }, z -> z.undo());
    }

    private static void undoNone() {
        Edge.sentence("NONE: nothing is kept.");
        Edge.refused(NONE, NoseJury::new, x -> x.undo());
        Edge.refused(NONE, () -> Edge.hallOf(3, 1, 2), x -> x.undo());
        Edge.refused(NONE, () -> {
            NoseJury x = Edge.some();
            x.tear();
            return x;
        }, x -> x.undo());
    }

    private static void tear() {
        Edge.sentence("Nothing is kept: 1 if something was, else 0.");
        Edge.onlyAsks(0, NoseJury::new, x -> x.tear());
        NoseJury x = new NoseJury();
        x.image();
        x.image();
        due(1, x.tear());
        due(0, x.tear());
        due(NONE, x.undo());
        // What there is stays; only the image is gone.
        NoseJury y = Edge.some();
        due(1, y.tear());
        due(6, y.count(0));
        due(12, y.count(1));
        due(2, y.now(1));
        due(1, y.image());
        due(6, y.undo());
        due(1, y.tear());
    }

    private static void count() {
        Edge.sentence("0 PEOPLE, 1 bytes of THE TAPE, 2 those with a COLD, 3 NOSES of all together. BEYOND: another what.");
        int[] some = {6, 12, 1, 5 * 5 + 7};
        int[] full = {8, 120, 0, 40};
        for (int what = 0; what <= 3; what++) {
            int w = what;
            Edge.onlyAsks(0, NoseJury::new, x -> x.count(w));
            Edge.onlyAsks(some[what], Edge::some, x -> x.count(w));
            Edge.onlyAsks(full[what], Edge::full, x -> x.count(w));
        }
        Edge.refused(BEYOND, Edge::some, (x, v) -> x.count(v), -1, 4, LOW, HIGH);
        Edge.refused(BEYOND, NoseJury::new, (x, v) -> x.count(v), -1, 4);
        NoseJury x = Edge.full();
        for (int p = 0; p < 8; p++) {
            x.set(p, 3, 1);
            x.set(p, 2, 9);
        }
        due(8, x.count(2));
        due(72, x.count(3));
        // Of those who are there no more there is nothing to count.
        NoseJury y = Edge.hallOf(0, 0);
        y.image();
        y.person(0, 0);
        y.set(1, 3, 1);
        y.undo();
        due(0, y.count(2));
        due(5, y.count(3));
    }

    private static void status() {
        Edge.sentence("How many acts answered a finding ever (undo() takes none back): which -1: all, 0 to 6: BEYOND to SIZE.");
        for (int which = -1; which <= 6; which++) {
            int w = which;
            Edge.onlyAsks(0, NoseJury::new, x -> x.status(w));
        }
        NoseJury x = Edge.full();
        x.sheet(0, 8, 1);
        int[] told = new int[7];
        for (int i = 1; i <= 7; i++) {
            // Each finding as many times as its number.
            for (int k = 0; k < i; k++) {
                told[i - 1] += find(x, i) == -1000000000 - i ? 1 : 0;
            }
        }
        int all = 0;
        for (int i = 1; i <= 7; i++) {
            due(i, told[i - 1]);
            due(i, x.status(i - 1));
            all += i;
        }
        due(all, x.status(-1));
    }

    /** An act that answers the finding of that number. */
    private static int find(NoseJury x, int number) {
        switch (number) {
            case 1:
                return x.now(5);
            case 2:
                return x.person(0, 0);
            case 3:
                return x.as(0, 5);
            case 4:
                return x.from(0, 1);
            case 5:
                return x.convicts(1, 0);
            case 6:
                return x.lays(1);
            default:
                return x.sheet(0, 8, -1);
        }
    }

    private static void statusOfEach() {
        Edge.sentence("0 to 6: BEYOND to SIZE");
        // The findings of the one act that answers a long are counted, too.
        NoseJury x = new NoseJury();
        x.write(4, 0, 0);
        x.write(0, 0, 0);
        due(1, x.status(0));
        due(1, x.status(5));
        due(2, x.status(-1));
        // The last and the first, of those which an act answers in order: only one is told of an act.
        NoseJury y = new NoseJury();
        y.sheet(4, 9, -1);
        due(1, y.status(0));
        due(0, y.status(6));
        due(1, y.status(-1));
        Edge.refused(FULL, Edge::full, z -> find(z, 2));
        Edge.refused(KIND, Edge::full, z -> find(z, 3));
        Edge.refused(NONE, Edge::full, z -> find(z, 4));
        Edge.refused(STATE, Edge::full, z -> find(z, 5));
        Edge.refused(MISSING, Edge::full, z -> find(z, 6));
        Edge.refused(SIZE, Edge::full, z -> find(z, 7));
    }

    private static void statusBeyond() {
        Edge.sentence("BEYOND (counted from then on): another one.");
        Edge.refused(BEYOND, Edge::some, (x, v) -> x.status(v), -2, 7, LOW, HIGH);
        Edge.refused(BEYOND, NoseJury::new, (x, v) -> x.status(v), -2, 7);
        NoseJury x = new NoseJury();
        due(BEYOND, x.status(7));
        due(1, x.status(0));
        due(1, x.status(-1));
        due(BEYOND, x.status(-2));
        due(2, x.status(-1));
        due(2, x.status(0));
        due(0, x.status(1));
        due(0, x.status(6));
    }

    private static void statusStays() {
        Edge.sentence("(undo() takes none back)");
        NoseJury x = new NoseJury();
        x.image();
        x.of(0, 0);
        due(0, x.undo());
        due(1, x.status(-1));
        x.tear();
        x.wipe();
        due(1, x.status(-1));
        // Neither a fault of a text nor a 0 is a finding, though both say no.
        x.hall();
        Edge.told(x, "x");
        x.tear();
        x.image();
        due(1, x.status(-1));
        due(BEYOND, x.deed(0, 0));
        due(2, x.status(0));
    }

    /** As many findings as an object's calls allow. */
    private static void manyFindings() {
        NoseJury x = new NoseJury();
        for (int i = 0; i < 509; i++) {
            x.now(9);
        }
        due(509, x.status(0));
        due(509, x.status(-1));
    }
}
