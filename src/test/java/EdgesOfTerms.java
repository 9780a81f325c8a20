/** The edges that the terms of the document name, which the promises share. */
public final class EdgesOfTerms {
    private static final int BEYOND = Edge.BEYOND;
    private static final int FULL = Edge.FULL;
    private static final int NONE = Edge.NONE;
    private static final int STATE = Edge.STATE;
    private static final int MISSING = Edge.MISSING;

    private static void due(long want, long got) {
        Edge.due(want, got);
    }

    public static void main(String[] args) {
        findings();
        orderOfFindings();
        quotients();
        sets();
        places();
        apart();
        windAtFirst();
        downwind();
        hour();
        dueLimits();
        people();
        kinds();
        scents();
        noses();
        colds();
        personGivesOff();
        cookGivesOff();
        barristerGivesOff();
        dogGivesOff();
        perfumerGivesOff();
        houndGivesOff();
        personSenses();
        cookSenses();
        dogSenses();
        houndSenses();
        smells();
        findsGuilty();
        barristersBeside();
        hourFades();
        hourFadesDeedFive();
        clings();
        clingsAsTheHourBegan();
        clingsByScentAlone();
        on();
        jury();
        sheets();
        Edge.end();
    }

    private static void findings() {
        Edge.sentence("FINDINGS are answers below -1000000000");
        Edge.refused(-1000000001, Edge::some, x -> x.law(2, 0));
        Edge.refused(-1000000002, Edge::full, x -> x.person(0, 0));
        Edge.refused(-1000000003, Edge::some, x -> x.as(0, 1));
        Edge.refused(-1000000004, NoseJury::new, x -> x.undo());
        Edge.refused(-1000000005, Edge::some, x -> x.convicts(1, 0));
        Edge.refused(-1000000006, Edge::some, x -> x.lays(3));
        Edge.refused(-1000000007, Edge::some, x -> x.sheet(0, 8, -1));
        Edge.sentence("(in longs, too)");
        Edge.refused(-1000000001, Edge::some, x -> x.write(4, 0, 9));
        Edge.refused(-1000000006, Edge::some, x -> x.write(3, 0, 9));
        // A number that looks like a finding is none.
        NoseJury x = new NoseJury();
        x.sheet(0, 64, 1);
        x.write(0, 0, -1000000001L);
        due(-1000000001L, x.write(0, 0, 0));
        due(0, x.status(-1));
    }

    private static void orderOfFindings() {
        Edge.sentence("Each act tells its findings in the order in which they are asked");
        Edge.refused(BEYOND, Edge::full, x -> x.person(6, 0));
        Edge.refused(BEYOND, Edge::full, x -> x.person(0, 48));
        Edge.refused(BEYOND, Edge::some, x -> x.as(0, 6));
        Edge.refused(BEYOND, Edge::some, x -> x.convicts(64 + 1, 0));
        Edge.refused(BEYOND, Edge::late, x -> x.hours(61));
        Edge.refused(BEYOND, Edge::full, x -> x.feed(0, 5));
        Edge.refused(BEYOND, Edge::some, x -> x.sheet(4, 8, -1));
        Edge.refused(BEYOND, Edge::some, x -> x.sheet(0, 9, -1));
        Edge.refused(MISSING, Edge::some, x -> x.write(3, -1, 0));
        Edge.refused(BEYOND, Edge::some, x -> x.copy(3, 0, 4, 0, 0));
        Edge.refused(MISSING, Edge::some, x -> x.copy(0, 0, 3, 0, -1));
        Edge.refused(Edge.KIND, Edge::some, x -> x.copy(0, 0, 1, 0, -1));
        Edge.refused(MISSING, Edge::some, x -> x.book(3, 9, 9, 9));
        Edge.refused(MISSING, Edge::some, x -> x.read(3, 9, 9, 9));
        // One in whom nothing could be smelt is not there at all.
        Edge.refused(BEYOND, Edge::some, x -> x.deed(2, 2));
        Edge.refused(BEYOND, Edge::some, x -> x.jury(2, 8));
        Edge.refused(BEYOND, Edge::some, x -> x.from(2, 6));
    }

    private static void quotients() {
        Edge.sentence("Quotients are cut.");
        NoseJury x = Edge.hallOf(0, 0, 1);
        int[] thirds = {0, 0, 0, 1, 1, 1, 2};
        for (int v = 0; v < thirds.length; v++) {
            x.did(0, 0, v);
            due(v - thirds[v], x.wash(0));
            due(thirds[v], x.scent(0, 0, 0));
        }
        // 5 by 6 is nothing, 10 by 6 is 1, 11 times 5 by 6 is 9.
        x.did(0, 0, 1);
        due(0, x.smells(1, 0, 0));
        x.did(0, 0, 2);
        due(1, x.smells(1, 0, 0));
        x.did(0, 0, 11);
        due(9, x.smells(1, 0, 0));
    }

    private static void sets() {
        Edge.sentence("Sets are told by bits.");
        NoseJury x = Edge.hallOf(0, 0, 0, 0, 0, 0, 0, 0, 0);
        x.did(0, 0, 99);
        due(254, x.guilty(0));
        due(1, x.now(4));
        x.did(0, 0, 0);
        due(0, x.now(4));
        x.did(7, 0, 99);
        due(127, x.guilty(7));
        due(128, x.now(4));
        for (int p = 1; p < 7; p++) {
            x.set(p, 3, 1);
        }
        due(1, x.guilty(7));
        due(1, x.jury(7, 1));
        x.set(0, 3, 1);
        x.set(6, 3, 0);
        due(64, x.guilty(7));
        due(64, x.jury(7, 1));
        due(1, x.convicts(64, 7));
        due(0, x.convicts(32, 7));
    }

    private static void places() {
        Edge.sentence("PLACES 0 to 47");
        for (int place : new int[] {0, 47}) {
            NoseJury x = Edge.hallOf(0, place, 20);
            due(place, x.of(0, 1));
            due(20, x.set(1, 1, place));
            due(place, x.of(1, 1));
            x.sheet(0, 8, 1);
            x.set(0, 1, 9);
            x.write(0, 0, place);
            due(1, x.lays(0));
            due(place, x.of(0, 1));
        }
        Edge.refused(BEYOND, Edge::some, (x, v) -> x.person(0, v), -1, 48, Edge.LOW, Edge.HIGH);
        Edge.refused(BEYOND, Edge::some, (x, v) -> x.set(0, 1, v), -1, 48, Edge.LOW, Edge.HIGH);
    }

    private static void apart() {
        Edge.sentence("in 6 rows (row: by 8) of 8 columns (the rest). APART: rows and columns between two of them, together.");
        // 7 and 8 are neighbours by number, but a row and seven columns apart. 495 by what is apart and 5.
        int[][] pairs = {
            {0, 0, 0}, {0, 1, 1}, {0, 8, 1}, {0, 9, 2}, {0, 7, 7}, {7, 8, 8}, {15, 16, 8}, {39, 40, 8}, {0, 40, 5},
            {7, 47, 5}, {40, 47, 7}, {0, 47, 12}, {7, 40, 12}, {46, 47, 1}, {39, 47, 1}, {47, 47, 0},
        };
        for (int[] pair : pairs) {
            NoseJury x = Edge.hallOf(0, pair[0], pair[1]);
            x.did(0, 0, 99);
            x.did(1, 0, 99);
            due(495 / (pair[2] + 5), x.smells(0, 1, 0));
            due(495 / (pair[2] + 5), x.smells(1, 0, 0));
        }
    }

    private static void windAtFirst() {
        Edge.sentence("WIND: 0 none (at first), 1 up, 2 right, 3 down, 4 left.");
        NoseJury x = Edge.hallOf(0, 0, 47);
        due(0, x.now(1));
        x.did(0, 0, 99);
        x.did(1, 0, 99);
        due(29, x.smells(0, 1, 0));
        due(29, x.smells(1, 0, 0));
        due(0, x.law(0, 4));
        due(4, x.law(0, 0));
        due(29, x.smells(0, 1, 0));
        Edge.refused(BEYOND, Edge::some, (y, v) -> y.law(0, v), -1, 5, Edge.LOW, Edge.HIGH);
    }

    private static void downwind() {
        Edge.sentence("A PLACE is DOWNWIND of another one, if with WIND 1 its row is less, 2 its column greater, "
            + "3 its row greater, 4 its column less.");
        // The winds with which the second place of a pair is downwind of the first, and with which the first is.
        int[][] pairs = {{27, 19}, {27, 28}, {27, 35}, {27, 26}, {27, 27}, {8, 7}, {0, 47}, {40, 7}, {0, 7}, {0, 40}};
        int[][] second = {{1}, {2}, {3}, {4}, {}, {1, 2}, {2, 3}, {1, 2}, {2}, {3}};
        int[][] first = {{3}, {4}, {1}, {2}, {}, {3, 4}, {1, 4}, {3, 4}, {4}, {1}};
        int[] plain = {82, 82, 82, 82, 99, 38, 29, 29, 41, 49};
        for (int k = 0; k < pairs.length; k++) {
            NoseJury x = Edge.hallOf(0, pairs[k]);
            x.did(0, 1, 99);
            for (int w = 0; w <= 4; w++) {
                x.law(0, w);
                int want = has(second[k], w) ? 2 * plain[k] : has(first[k], w) ? plain[k] / 2 : plain[k];
                due(want, x.smells(1, 0, 1));
            }
        }
    }

    private static boolean has(int[] row, int v) {
        for (int one : row) {
            if (one == v) {
                return true;
            }
        }
        return false;
    }

    private static void hour() {
        Edge.sentence("HOUR: 0 at first (9999 at most).");
        due(0, new NoseJury().now(0));
        NoseJury x = Edge.late();
        due(9990, x.now(0));
        x.hours(8);
        due(9998, x.now(0));
        x.hours(1);
        due(9999, x.now(0));
        due(STATE, x.hours(1));
        due(9999, x.now(0));
    }

    private static void dueLimits() {
        Edge.sentence("DUE (1 to 99; 20 at first): how much smells of guilt.");
        NoseJury x = Edge.hallOf(0, 0, 0);
        due(20, x.now(2));
        due(20, x.law(1, 1));
        due(1, x.law(1, 99));
        due(99, x.now(2));
        Edge.refused(BEYOND, Edge::some, (y, v) -> y.law(1, v), 0, 100, -1, Edge.LOW, Edge.HIGH);
        // Of 1 just one with a scent smells of guilt, with 99 only the greatest does.
        x.did(0, 0, 98);
        due(0, x.guilty(0));
        x.did(0, 0, 99);
        due(2, x.guilty(0));
        x.law(1, 1);
        x.did(0, 0, 1);
        due(2, x.guilty(0));
        x.did(0, 0, 0);
        due(0, x.guilty(0));
    }

    private static void people() {
        Edge.sentence("PEOPLE 0, 1, .. (at most 8)");
        NoseJury x = new NoseJury();
        for (int p = 0; p < 8; p++) {
            due(p, x.count(0));
            due(p, x.person(0, 0));
        }
        due(FULL, x.person(0, 0));
        due(8, x.count(0));
        due(BEYOND, x.of(8, 0));
        due(0, x.of(7, 0));
        Edge.refused(FULL, Edge::full, y -> y.person(5, 47));
    }

    private static void kinds() {
        Edge.sentence("are of KINDS: 0 PERSON, 1 COOK under PERSON, 2 BARRISTER under PERSON, 3 DOG under PERSON, "
            + "4 PERFUMER under BARRISTER, 5 HOUND under DOG");
        due(0, new NoseJury().person(0, 0));
        due(0, new NoseJury().person(5, 0));
        Edge.refused(BEYOND, Edge::some, (x, v) -> x.person(v, 0), -1, 6, Edge.LOW, Edge.HIGH);
        String[] above = {"0", "01", "02", "03", "024", "035"};
        for (int kind = 0; kind < 6; kind++) {
            NoseJury x = Edge.hallOf(kind, 0);
            for (int other = 0; other < 6; other++) {
                due(above[kind].indexOf('0' + other) >= 0 ? 5 : Edge.KIND, x.as(0, other));
            }
        }
    }

    private static void scents() {
        Edge.sentence("with a SCENT of each DEED 0 to 5 (0 to 99; 0 at first)");
        NoseJury x = Edge.hallOf(0, 0);
        for (int deed = 0; deed <= 5; deed++) {
            due(0, x.scent(0, deed, 0));
            due(0, x.did(0, deed, 99));
            due(99, x.did(0, deed, 0));
            due(0, x.did(0, deed, 10 + deed));
        }
        due(75, x.of(0, 4));
        Edge.refused(BEYOND, Edge::some, (y, v) -> y.did(0, 0, v), -1, 100, Edge.LOW, Edge.HIGH);
        Edge.refused(BEYOND, Edge::some, (y, v) -> y.did(0, v, 1), -1, 6, Edge.LOW, Edge.HIGH);
    }

    private static void noses() {
        Edge.sentence("a NOSE (0 to 9; 5 at first)");
        NoseJury x = Edge.hallOf(0, 0);
        due(5, x.set(0, 2, 0));
        due(0, x.set(0, 2, 9));
        due(9, x.of(0, 2));
        Edge.refused(BEYOND, Edge::some, (y, v) -> y.set(0, 2, v), -1, 10, Edge.LOW, Edge.HIGH);
    }

    private static void colds() {
        Edge.sentence("a COLD or not (not at first)");
        NoseJury x = Edge.hallOf(0, 0);
        due(0, x.set(0, 3, 1));
        due(1, x.set(0, 3, 0));
        due(0, x.of(0, 3));
        Edge.refused(BEYOND, Edge::some, (y, v) -> y.set(0, 3, v), -1, 2, Edge.LOW, Edge.HIGH);
    }

    /** What one of a kind gives off of a deed, in an hour that is even or odd. */
    private static int off(int kind, int deed, int v, int hour) {
        NoseJury x = Edge.hallOf(kind, 0);
        if (hour > 0) {
            x.hours(hour);
        }
        x.did(0, deed, v);
        due(x.scent(0, deed, 1), x.of(0, 5));
        return x.scent(0, deed, 1);
    }

    private static void personGivesOff() {
        Edge.sentence("PERSON: v.");
        due(0, off(0, 0, 0, 0));
        due(1, off(0, 0, 1, 0));
        due(99, off(0, 5, 99, 1));
    }

    private static void cookGivesOff() {
        Edge.sentence("COOK: 0 of DEED 0, else as PERSON.");
        due(0, off(1, 0, 99, 0));
        due(0, off(1, 0, 99, 1));
        due(99, off(1, 1, 99, 0));
        due(99, off(1, 5, 99, 1));
    }

    private static void barristerGivesOff() {
        Edge.sentence("BARRISTER: as PERSON, less 10 (0 at least).");
        int[] of = {0, 9, 10, 11, 99};
        int[] want = {0, 0, 0, 1, 89};
        for (int k = 0; k < of.length; k++) {
            due(want[k], off(2, 0, of[k], 0));
            due(want[k], off(2, 4, of[k], 1));
        }
    }

    private static void dogGivesOff() {
        Edge.sentence("DOG: as PERSON, and half of that.");
        int[] of = {0, 1, 2, 3, 98, 99};
        int[] want = {0, 1, 3, 4, 147, 148};
        for (int k = 0; k < of.length; k++) {
            due(want[k], off(3, 0, of[k], 0));
            due(want[k], off(3, 4, of[k], 1));
        }
    }

    private static void perfumerGivesOff() {
        Edge.sentence("PERFUMER: as BARRISTER, half of that in HOURS that are even.");
        int[] of = {0, 8, 9, 10, 11, 12, 13, 99};
        int[] even = {0, 0, 0, 0, 0, 1, 1, 44};
        int[] odd = {0, 0, 0, 0, 1, 2, 3, 89};
        for (int k = 0; k < of.length; k++) {
            due(even[k], off(4, 0, of[k], 0));
            due(odd[k], off(4, 0, of[k], 1));
            due(even[k], off(4, 3, of[k], 2));
            due(odd[k], off(4, 3, of[k], 3));
        }
    }

    private static void houndGivesOff() {
        Edge.sentence("HOUND: as DOG, less 5 (0 at least).");
        int[] of = {0, 1, 2, 3, 4, 5, 99};
        int[] want = {0, 0, 0, 0, 1, 2, 143};
        for (int k = 0; k < of.length; k++) {
            due(want[k], off(5, 0, of[k], 0));
            due(want[k], off(5, 4, of[k], 1));
        }
    }

    /** What one of a kind smells, without wind, of a person's scent so far apart (in columns). */
    private static int sensed(int kind, int nose, int v, int apart) {
        NoseJury x = Edge.hallOf(kind, 0);
        x.person(0, apart);
        x.set(0, 2, nose);
        x.did(1, 0, v);
        int got = x.smells(0, 1, 0);
        x.set(0, 3, 1);
        due(0, x.smells(0, 1, 0));
        return got;
    }

    private static void personSenses() {
        Edge.sentence("SENSES (of g given off, a APART): PERSON: g times NOSE by (a and 5); 0 with a COLD. BARRISTER: as PERSON.");
        for (int kind : new int[] {0, 2, 4}) {
            due(0, sensed(kind, 0, 99, 0));
            due(0, sensed(kind, 1, 4, 0));
            due(1, sensed(kind, 1, 5, 0));
            due(178, sensed(kind, 9, 99, 0));
            due(148, sensed(kind, 9, 99, 1));
            due(74, sensed(kind, 9, 99, 7));
            due(0, sensed(kind, 9, 0, 0));
        }
    }

    private static void cookSenses() {
        Edge.sentence("COOK: as PERSON, but 0 where a is 0.");
        due(0, sensed(1, 9, 99, 0));
        due(148, sensed(1, 9, 99, 1));
        due(74, sensed(1, 9, 99, 7));
    }

    private static void dogSenses() {
        Edge.sentence("DOG: twice as PERSON.");
        // The quotient is cut before: 9 by 5 is 1, twice that is 2.
        due(0, sensed(3, 1, 4, 0));
        due(2, sensed(3, 1, 5, 0));
        due(2, sensed(3, 1, 9, 0));
        due(356, sensed(3, 9, 99, 0));
        due(0, sensed(3, 0, 99, 0));
    }

    private static void houndSenses() {
        Edge.sentence("HOUND: as DOG, and 3, if that is above 0.");
        due(0, sensed(5, 1, 4, 0));
        due(5, sensed(5, 1, 5, 0));
        due(5, sensed(5, 1, 9, 0));
        due(7, sensed(5, 1, 10, 0));
        due(359, sensed(5, 9, 99, 0));
        due(0, sensed(5, 0, 99, 0));
    }

    private static void smells() {
        Edge.sentence("twice that, if it is DOWNWIND of it, half of that, if the other one is DOWNWIND of it "
            + "(of both at once there is none)");
        // 3 times 5 by 6 is 2; of a hound 2 times 2 and 3; the half is cut, and nothing is half of 1.
        int[] kinds = {0, 5, 3};
        int[][] want = {{2, 4, 1}, {7, 14, 3}, {4, 8, 2}};
        for (int k = 0; k < kinds.length; k++) {
            NoseJury x = Edge.hallOf(kinds[k], 1);
            x.person(0, 0);
            x.did(1, 2, 3);
            due(want[k][0], x.smells(0, 1, 2));
            x.law(0, 2);
            due(want[k][1], x.smells(0, 1, 2));
            x.law(0, 4);
            due(want[k][2], x.smells(0, 1, 2));
        }
        NoseJury y = Edge.hallOf(0, 0, 1);
        y.did(0, 0, 2);
        y.law(0, 4);
        due(0, y.smells(1, 0, 0));
        y.law(0, 2);
        due(2, y.smells(1, 0, 0));
    }

    private static void findsGuilty() {
        Edge.sentence("FINDS GUILTY: one another one, if it SMELLS DUE or more of any DEED of it.");
        NoseJury x = Edge.hallOf(0, 0, 0);
        for (int deed = 0; deed <= 5; deed++) {
            x.did(0, deed, 19);
        }
        // Six deeds of 19 are none of 20.
        due(0, x.guilty(0));
        for (int deed = 0; deed <= 5; deed++) {
            x.did(0, deed, 20);
            due(2, x.guilty(0));
            x.did(0, deed, 19);
            due(0, x.guilty(0));
        }
        x.law(1, 19);
        due(2, x.guilty(0));
        // Nobody else is there to smell the other one, and nobody finds itself guilty.
        due(0, x.guilty(1));
    }

    private static void barristersBeside() {
        Edge.sentence("A BARRISTER or one under it never does with one BESIDE it (APART 1 or less).");
        int[] beside = {27, 26, 28, 19, 35};
        int[] notBeside = {25, 29, 11, 43, 18, 20, 34, 36};
        for (int kind = 0; kind < 6; kind++) {
            boolean spares = kind == 2 || kind == 4;
            NoseJury x = Edge.hallOf(kind, 27);
            x.person(0, 0);
            x.did(1, 1, 99);
            for (int place : beside) {
                x.set(1, 1, place);
                // A cook doesn't smell what is at its own place.
                due(spares || kind == 1 && place == 27 ? 0 : 1, x.guilty(1));
            }
            for (int place : notBeside) {
                x.set(1, 1, place);
                due(1, x.guilty(1));
            }
        }
        // By number 8 is next to 7, but it stands at the other end of the next row.
        NoseJury y = Edge.hallOf(2, 7);
        y.person(0, 8);
        y.did(1, 1, 99);
        due(1, y.guilty(1));
        // Each place beside is so for the other one, too; who is found guilty may be a barrister.
        NoseJury z = Edge.hallOf(2, 27);
        z.person(0, 28);
        z.did(0, 1, 99);
        due(2, z.guilty(0));
    }

    private static void hourFades() {
        Edge.sentence("SCENT of each DEED of each is less by a tenth of it and 1 more (0 at least)");
        int[] of = {0, 1, 2, 9, 10, 11, 19, 20, 89, 90, 98, 99};
        int[] want = {0, 0, 1, 8, 8, 9, 17, 17, 80, 80, 88, 89};
        for (int k = 0; k < of.length; k++) {
            NoseJury x = Edge.hallOf(k % 6, 0);
            for (int deed = 0; deed <= 4; deed++) {
                x.did(0, deed, of[k]);
            }
            due(5 * want[k], x.hours(1));
            for (int deed = 0; deed <= 4; deed++) {
                due(want[k], x.scent(0, deed, 0));
            }
            due(1, x.now(0));
        }
    }

    private static void hourFadesDeedFive() {
        Edge.sentence("of DEED 5 by half of it");
        int[] of = {0, 1, 2, 3, 4, 98, 99};
        int[] want = {0, 1, 1, 2, 2, 49, 50};
        for (int k = 0; k < of.length; k++) {
            NoseJury x = Edge.hallOf(k % 6, 0);
            x.did(0, 5, of[k]);
            due(want[k], x.hours(1));
            due(want[k], x.scent(0, 5, 0));
        }
    }

    /** The scent of the first of two an hour later, where the second is at the place told. */
    private static int later(int deed, int own, int others, int place) {
        NoseJury x = Edge.hallOf(0, 5, place);
        x.did(0, deed, own);
        x.did(1, deed, others);
        boolean told = x.from(0, deed) == 1;
        due(told ? 1 : NONE, x.from(0, deed));
        x.hours(1);
        int faded = deed == 5 ? own - own / 2 : Math.max(own - own / 10 - 1, 0);
        due(told ? 1 : 0, x.scent(0, deed, 0) > faded ? 1 : 0);
        return x.scent(0, deed, 0);
    }

    private static void clings() {
        Edge.sentence("it is as much as a quarter of the greatest SCENT of it, as the HOUR began, of others AT its PLACE, "
            + "if that is more (it CLINGS)");
        due(0, later(0, 0, 3, 5));
        due(1, later(0, 0, 4, 5));
        due(1, later(0, 0, 7, 5));
        due(2, later(0, 0, 8, 5));
        due(24, later(0, 0, 99, 5));
        due(24, later(4, 26, 99, 5));
        due(24, later(4, 27, 99, 5));
        due(25, later(4, 28, 99, 5));
        due(24, later(5, 46, 99, 5));
        due(24, later(5, 47, 99, 5));
        due(24, later(5, 48, 99, 5));
        due(25, later(5, 49, 99, 5));
        // A place beside is another place.
        due(0, later(0, 0, 99, 4));
        due(0, later(0, 0, 99, 6));
        due(0, later(0, 0, 99, 13));
        // Of several others it is the greatest; one's own is not of others.
        NoseJury x = Edge.hallOf(0, 5, 5, 5, 5);
        x.did(1, 2, 40);
        x.did(2, 2, 80);
        x.did(3, 2, 41);
        x.hours(1);
        due(20, x.scent(0, 2, 0));
        due(35, x.scent(1, 2, 0));
        due(71, x.scent(2, 2, 0));
        due(36, x.scent(3, 2, 0));
    }

    private static void clingsAsTheHourBegan() {
        Edge.sentence("An HOUR goes (all by what is so as it begins)");
        // Whoever comes first by number: a quarter of 99, not of the 89 that are left.
        for (int giver = 0; giver < 3; giver++) {
            NoseJury x = Edge.hallOf(0, 9, 9, 9);
            x.did(giver, 3, 99);
            due(89 + 24 + 24, x.hours(1));
            due(89, x.scent(giver, 3, 0));
            // Of 24 are 21 left, a quarter of 89 is 22.
            due(80 + 22 + 22, x.hours(1));
        }
        // Both at once have what the other one had.
        NoseJury y = Edge.hallOf(0, 9, 9);
        y.did(0, 3, 80);
        y.did(1, 4, 80);
        due(71 + 20 + 71 + 20, y.hours(1));
        due(20, y.scent(1, 3, 0));
        due(20, y.scent(0, 4, 0));
    }

    private static void clingsByScentAlone() {
        Edge.sentence("a quarter of the greatest SCENT of it");
        // What a cook, or a barrister, doesn't give off clings all the same; a cold keeps nothing off.
        for (int kind = 0; kind < 6; kind++) {
            NoseJury x = Edge.hallOf(kind, 9, 9);
            x.did(0, 0, 40);
            x.set(1, 3, 1);
            x.set(1, 2, 0);
            x.hours(1);
            due(10, x.scent(1, 0, 0));
        }
    }

    private static void on() {
        Edge.sentence("ON: n HOURS go on with all as it is; nothing changes.");
        // 71 are left of 80 as it stands there.
        Edge.onlyAsks(63, Edge::some, x -> x.on(0, 0, 1));
        Edge.onlyAsks(0, Edge::some, x -> x.on(3, 4, 60));
        // It isn't asked whether HOUR would be above 9999, as with hours().
        Edge.onlyAsks(1, Edge::late, x -> x.on(0, 5, 60));
        Edge.onlyAsks(0, Edge::late, x -> x.on(0, 0, 60));
    }

    private static void jury() {
        Edge.sentence("it CONVICTS one (not of it), if more than half of it FIND it GUILTY");
        // 1, 2, 3 and 4 find 0 guilty, 5, 6 and 7 have colds.
        NoseJury x = Edge.hallOf(0, 0, 1, 1, 1, 1, 1, 1, 1);
        x.did(0, 0, 99);
        for (int p = 5; p < 8; p++) {
            x.set(p, 3, 1);
        }
        int[] juries = {2, 32, 2 + 32, 2 + 4 + 32, 2 + 32 + 64, 2 + 4 + 32 + 64, 14 + 32, 14 + 32 + 64, 14 + 224, 254, 252};
        int[] want = {1, 0, 0, 1, 0, 0, 1, 1, 0, 1, 0};
        for (int k = 0; k < juries.length; k++) {
            due(want[k], x.convicts(juries[k], 0));
        }
        due(STATE, x.convicts(255, 0));
    }

    private static void sheets() {
        Edge.sentence("SHEETS 0 to 3 are rows of at most 40 numbers of 8, 16 or 64 bits, or MISSING (at first).");
        NoseJury x = new NoseJury();
        for (int s = 0; s < 4; s++) {
            due(MISSING, x.write(s, 0, 1));
            due(40, x.sheet(s, 64, 40));
            due(0, x.write(s, 39, 1));
            due(BEYOND, x.write(s, 40, 1));
        }
        Edge.refused(BEYOND, Edge::some, (y, v) -> y.sheet(v, 8, 1), -1, 4, Edge.LOW, Edge.HIGH);
        Edge.refused(BEYOND, Edge::some, (y, v) -> y.sheet(0, 8, v), 41, Edge.HIGH);
        int[] bits = {1, 7, 9, 15, 17, 32, 63, 65, -8, Edge.LOW, Edge.HIGH};
        Edge.refused(BEYOND, Edge::some, (y, v) -> y.sheet(0, v, 1), bits);
    }
}
