/** The edges of promises 1 to 11: the hall, people. */
public final class EdgesOfPeople {
    private static final int BEYOND = Edge.BEYOND;
    private static final int FULL = Edge.FULL;
    private static final int KIND = Edge.KIND;
    private static final int NONE = Edge.NONE;
    private static final int MISSING = Edge.MISSING;
    private static final int LOW = Edge.LOW;
    private static final int HIGH = Edge.HIGH;

    private static void due(long want, long got) {
        Edge.due(want, got);
    }

    public static void main(String[] args) {
        newObject();
        objectsAreApart();
        law();
        person();
        of();
        set();
        did();
        scent();
        turn();
        as();
        wash();
        meet();
        Edge.end();
    }

    private static void newObject() {
        Edge.sentence("Nobody there; THE TAPE is empty, no image is kept.");
        NoseJury x = new NoseJury();
        int[] now = {0, 0, 20, 0, 0};
        for (int what = 0; what < now.length; what++) {
            due(now[what], x.now(what));
        }
        for (int what = 0; what <= 3; what++) {
            due(0, x.count(what));
        }
        for (int which = -1; which <= 6; which++) {
            due(0, x.status(which));
        }
        due(0, x.wipe());
        due(-1, x.hall());
        due(0, x.tear());
        due(NONE, x.undo());
        for (int s = 0; s < 4; s++) {
            due(MISSING, x.lays(s));
        }
        // With nobody there hours go all the same.
        due(0, x.hours(60));
        due(60, x.now(0));
    }

    /** What is done to one object is nothing to another one. */
    private static void objectsAreApart() {
        NoseJury x = new NoseJury();
        Edge.some().of(9, 9);
        Edge.full().of(9, 9);
        due(0, x.count(0));
        due(0, x.status(-1));
        due(0, x.count(1));
        due(NONE, x.undo());
        due(MISSING, x.lays(0));
    }

    private static void law() {
        Edge.sentence("WIND (what 0), DUE (1) becomes v: what it was. BEYOND.");
        Edge.refused(BEYOND, Edge::some, (x, v) -> x.law(v, 1), -1, 2, 3, LOW, HIGH);
        Edge.refused(BEYOND, NoseJury::new, (x, v) -> x.law(0, v), -1, 5);
        Edge.refused(BEYOND, NoseJury::new, (x, v) -> x.law(1, v), 0, 100);
        NoseJury x = new NoseJury();
        due(0, x.law(0, 0));
        due(0, x.law(0, 4));
        due(4, x.law(0, 4));
        due(20, x.law(1, 20));
        due(20, x.law(1, 1));
        due(1, x.law(1, 99));
        // Each is by itself.
        due(4, x.now(1));
        due(99, x.now(2));
        due(0, x.status(-1));
    }

    private static void person() {
        Edge.sentence("One more AT a PLACE: the number. BEYOND: kind, place. FULL.");
        for (int kind = 0; kind <= 5; kind++) {
            NoseJury x = new NoseJury();
            due(0, x.person(kind, 47));
            due(1, x.person(kind, 0));
            due(kind, x.of(1, 0));
            due(0, x.of(1, 1));
            due(5, x.of(1, 2));
            due(0, x.of(1, 3));
            due(0, x.of(1, 4));
        }
        Edge.refused(BEYOND, NoseJury::new, (x, v) -> x.person(v, 0), -1, 6, LOW, HIGH);
        Edge.refused(BEYOND, NoseJury::new, (x, v) -> x.person(0, v), -1, 48, LOW, HIGH);
        Edge.refused(BEYOND, Edge::full, (x, v) -> x.person(v, 0), -1, 6);
        Edge.refused(BEYOND, Edge::full, (x, v) -> x.person(0, v), -1, 48);
        Edge.refused(FULL, Edge::full, (x, v) -> x.person(v, 0), 0, 5);
        Edge.refused(FULL, Edge::full, (x, v) -> x.person(0, v), 0, 47);
        // The room that an image has is there again.
        NoseJury y = Edge.hallOf(0, 0, 0, 0, 0, 0, 0, 0);
        y.image();
        due(7, y.person(3, 3));
        y.did(7, 2, 50);
        y.set(7, 2, 9);
        y.set(7, 3, 1);
        due(FULL, y.person(3, 3));
        y.undo();
        // Who comes now has nothing of the one who was there.
        due(7, y.person(1, 4));
        due(5, y.of(7, 2));
        due(0, y.of(7, 3));
        due(0, y.of(7, 4));
    }

    private static void of() {
        Edge.sentence("Of one: what 0 KIND, 1 AT, 2 NOSE, 3 1 with a COLD, else 0, 4 SCENTS of all DEEDS together, "
            + "5 what it GIVES OFF of all together. BEYOND.");
        int[] ofTheDog = {3, 9, 5, 0, 44, 66};
        for (int what = 0; what < ofTheDog.length; what++) {
            int w = what;
            Edge.onlyAsks(ofTheDog[what], Edge::some, x -> x.of(3, w));
        }
        Edge.onlyAsks(1, Edge::some, x -> x.of(2, 3));
        Edge.refused(BEYOND, Edge::some, (x, v) -> x.of(3, v), -1, 6, LOW, HIGH);
        Edge.needsPerson((x, p) -> x.of(p, 0));
        Edge.onlyAsks(5, Edge::some, x -> x.of(5, 0));
        // All that one can have.
        NoseJury x = Edge.hallOf(3, 0);
        for (int deed = 0; deed <= 5; deed++) {
            x.did(0, deed, 99);
        }
        due(594, x.of(0, 4));
        due(6 * 148, x.of(0, 5));
        x.turn(0, 1);
        due(495, x.of(0, 5));
        x.turn(0, 4);
        due(6 * 44, x.of(0, 5));
    }

    private static void set() {
        Edge.sentence("AT (what 1), NOSE (2), COLD (3) of one becomes v: what it was. BEYOND.");
        Edge.refused(BEYOND, Edge::some, (x, v) -> x.set(0, v, 1), -1, 0, 4, 5, LOW, HIGH);
        Edge.refused(BEYOND, Edge::some, (x, v) -> x.set(5, 1, v), -1, 48);
        Edge.refused(BEYOND, Edge::some, (x, v) -> x.set(5, 2, v), -1, 10);
        Edge.refused(BEYOND, Edge::some, (x, v) -> x.set(5, 3, v), -1, 2);
        Edge.needsPerson((x, p) -> x.set(p, 1, 0));
        Edge.needsPerson((x, p) -> x.set(p, 2, 1));
        Edge.needsPerson((x, p) -> x.set(p, 3, 1));
        NoseJury x = Edge.hallOf(0, 0, 1);
        due(1, x.set(1, 1, 47));
        due(47, x.set(1, 1, 47));
        due(47, x.set(1, 1, 0));
        due(5, x.set(1, 2, 9));
        due(9, x.set(1, 2, 0));
        due(0, x.set(1, 3, 1));
        due(1, x.set(1, 3, 1));
        due(1, x.set(1, 3, 0));
        // The other one is as it was.
        due(0, x.of(0, 1));
        due(5, x.of(0, 2));
        due(0, x.of(0, 3));
        // A nose that is set stays while there is a cold.
        x.set(0, 3, 1);
        due(5, x.of(0, 2));
        due(5, x.as(0, 0));
    }

    private static void did() {
        Edge.sentence("SCENT of a DEED of one becomes v (0 to 99): what it was. BEYOND.");
        Edge.refused(BEYOND, Edge::some, (x, v) -> x.did(5, 3, v), -1, 100, LOW, HIGH);
        Edge.refused(BEYOND, Edge::some, (x, v) -> x.did(5, v, 3), -1, 6, LOW, HIGH);
        Edge.needsPerson((x, p) -> x.did(p, 0, 7));
        NoseJury x = Edge.hallOf(0, 0, 0);
        due(0, x.did(1, 0, 0));
        due(0, x.did(1, 0, 99));
        due(99, x.did(1, 0, 99));
        due(0, x.did(1, 5, 99));
        due(99, x.did(1, 5, 0));
        due(99, x.of(1, 4));
        due(0, x.of(0, 4));
    }

    private static void scent() {
        Edge.sentence("Of a DEED of one: what 0 SCENT, 1 what it GIVES OFF. BEYOND.");
        Edge.onlyAsks(44, Edge::some, x -> x.scent(3, 3, 0));
        Edge.onlyAsks(66, Edge::some, x -> x.scent(3, 3, 1));
        Edge.onlyAsks(0, Edge::some, x -> x.scent(3, 0, 0));
        Edge.onlyAsks(21, Edge::some, x -> x.scent(0, 5, 1));
        Edge.refused(BEYOND, Edge::some, (x, v) -> x.scent(3, 3, v), -1, 2, LOW, HIGH);
        Edge.refused(BEYOND, Edge::some, (x, v) -> x.scent(3, v, 0), -1, 6, LOW, HIGH);
        Edge.needsPerson((x, p) -> x.scent(p, 0, 0));
        Edge.needsPerson((x, p) -> x.scent(p, 0, 1));
    }

    private static void turn() {
        Edge.sentence("One becomes one of another KIND: what it was. BEYOND.");
        Edge.refused(BEYOND, Edge::some, (x, v) -> x.turn(3, v), -1, 6, LOW, HIGH);
        Edge.needsPerson((x, p) -> x.turn(p, 0));
        NoseJury x = Edge.hallOf(0, 7, 7);
        x.did(0, 0, 50);
        x.set(0, 2, 8);
        x.set(0, 3, 1);
        int was = 0;
        for (int kind : new int[] {5, 0, 3, 4, 1, 2, 2}) {
            due(was, x.turn(0, kind));
            due(kind, x.of(0, 0));
            was = kind;
        }
        // All else is as it was.
        due(7, x.of(0, 1));
        due(8, x.of(0, 2));
        due(1, x.of(0, 3));
        due(50, x.scent(0, 0, 0));
        due(0, x.of(1, 0));
    }

    private static void as() {
        Edge.sentence("One as one of a kind: NOSE. BEYOND: no such one, kind. KIND: it isn't of that kind, "
            + "nor of one under it.");
        Edge.onlyAsks(7, Edge::some, x -> x.as(1, 1));
        Edge.onlyAsks(7, Edge::some, x -> x.as(1, 0));
        Edge.onlyAsks(5, Edge::some, x -> x.as(4, 2));
        Edge.onlyAsks(5, Edge::some, x -> x.as(5, 3));
        // One above is not of the kind that is under it.
        Edge.refused(KIND, Edge::some, (x, v) -> x.as(0, v), 1, 2, 3, 4, 5);
        Edge.refused(KIND, Edge::some, (x, v) -> x.as(2, v), 1, 3, 4, 5);
        Edge.refused(KIND, Edge::some, (x, v) -> x.as(3, v), 1, 2, 4, 5);
        Edge.refused(KIND, Edge::some, (x, v) -> x.as(4, v), 1, 3, 5);
        Edge.refused(KIND, Edge::some, (x, v) -> x.as(5, v), 1, 2, 4);
        Edge.refused(BEYOND, Edge::some, (x, v) -> x.as(1, v), -1, 6, LOW, HIGH);
        Edge.needsPerson((x, p) -> x.as(p, 0));
        Edge.needsPerson((x, p) -> x.as(p, 5));
    }

    private static void wash() {
        Edge.sentence("One washes: SCENT of each DEED is a third of it: how much all are less. BEYOND.");
        Edge.needsPerson((x, p) -> x.wash(p));
        NoseJury x = Edge.hallOf(1, 0, 0);
        due(0, x.wash(0));
        int[] of = {99, 1, 2, 3, 4, 98};
        int[] third = {33, 0, 0, 1, 1, 32};
        for (int deed = 0; deed <= 5; deed++) {
            x.did(0, deed, of[deed]);
            x.did(1, deed, of[deed]);
        }
        due(66 + 1 + 2 + 2 + 3 + 66, x.wash(0));
        for (int deed = 0; deed <= 5; deed++) {
            due(third[deed], x.scent(0, deed, 0));
            due(of[deed], x.scent(1, deed, 0));
        }
        due(0, x.now(0));
        // The least washing: what is left of 1 is nothing.
        NoseJury y = Edge.hallOf(0, 0);
        y.did(0, 5, 1);
        due(1, y.wash(0));
        due(0, y.wash(0));
    }

    private static void meet() {
        Edge.sentence("Two meet: of each DEED both have half of the greater SCENT of both at least. "
            + "How many SCENTS are more by that. BEYOND: also one and the same.");
        Edge.needsPerson((x, p) -> x.meet(p, 0));
        Edge.needsPerson((x, p) -> x.meet(0, p));
        for (int p = 0; p < Edge.SOME; p++) {
            Edge.refused(BEYOND, Edge::some, (x, v) -> x.meet(v, v), p);
        }
        // The half is cut; who has it already has no more by it. It is the same in either order.
        int[][] both = {{0, 0}, {1, 0}, {2, 0}, {3, 0}, {3, 1}, {99, 48}, {99, 49}, {98, 49}, {98, 48}, {50, 50}};
        int[] lesser = {0, 0, 1, 1, 1, 49, 49, 49, 49, 50};
        for (int k = 0; k < both.length; k++) {
            for (int deed = 0; deed <= 5; deed++) {
                int more = lesser[k] > both[k][1] ? 1 : 0;
                for (int first = 0; first < 2; first++) {
                    NoseJury x = Edge.hallOf(0, 0, 47);
                    x.did(0, deed, both[k][0]);
                    x.did(1, deed, both[k][1]);
                    due(more, x.meet(first, 1 - first));
                    due(both[k][0], x.scent(0, deed, 0));
                    due(lesser[k], x.scent(1, deed, 0));
                    due(0, x.meet(first, 1 - first));
                }
            }
        }
        // All that can be more at once, of both.
        NoseJury y = Edge.hallOf(0, 0, 0);
        for (int deed = 0; deed <= 5; deed++) {
            y.did(deed % 2, deed, 99);
        }
        due(6, y.meet(0, 1));
        due(3 * 99 + 3 * 49, y.of(0, 4));
        due(3 * 99 + 3 * 49, y.of(1, 4));
        due(0, y.now(0));
    }
}
