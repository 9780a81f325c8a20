/** At least one test for each promise of the document: ordinary inputs, edges, wrong inputs. */
public final class NoseJuryPromises {
    private static final int BEYOND = -1000000001;
    private static final int FULL = -1000000002;
    private static final int KIND = -1000000003;
    private static final int NONE = -1000000004;
    private static final int STATE = -1000000005;
    private static final int MISSING = -1000000006;
    private static final int SIZE = -1000000007;

    private static final int LOW = Integer.MIN_VALUE;
    private static final int HIGH = Integer.MAX_VALUE;

    private static int wrong = 0;
    private static int promise = 0;
    private static int asked = 0;

    private static void due(long want, long got) {
        asked++;
        if (got != want) {
            wrong++;
            System.out.println("promise " + promise + ", question " + asked + ", line "
                + Thread.currentThread().getStackTrace()[2].getLineNumber()
                + ": answered " + got + ", due is " + want);
        }
    }

    private static void begin(int number) {
        promise = number;
        asked = 0;
    }

    /** People of one kind at the places told. */
    private static NoseJury hallOf(int kind, int... places) {
        NoseJury x = new NoseJury();
        for (int place : places) {
            x.person(kind, place);
        }
        return x;
    }

    private static int told(NoseJury x, String text) {
        for (int i = 0; i < text.length(); i++) {
            x.feed(text.charAt(i), 1);
        }
        return x.hall();
    }

    public static void main(String[] args) {
        newObject();
        law();
        person();
        of();
        set();
        did();
        scent();
        turn();
        as();
        wash();
        meet();
        smells();
        smellsByWind();
        deed();
        guilty();
        convicts();
        hours();
        now();
        on();
        clean();
        wind();
        seat();
        bath();
        kind();
        dueOf();
        jury();
        juries();
        from();
        nose();
        feed();
        wipe();
        hall();
        hallFaults();
        sheet();
        write();
        copy();
        lays();
        book();
        read();
        image();
        undo();
        tear();
        count();
        status();
        fullHall();
        System.out.println(wrong == 0 ? "all promises are kept" : wrong + " answers are not as due");
        if (wrong != 0) {
            System.exit(1);
        }
    }

    private static void newObject() {
        begin(1);
        NoseJury x = new NoseJury();
        due(0, x.count(0));
        due(0, x.count(1));
        due(0, x.count(2));
        due(0, x.count(3));
        due(0, x.now(0));
        due(0, x.now(1));
        due(20, x.now(2));
        due(0, x.now(3));
        due(0, x.now(4));
        due(0, x.status(-1));
        due(0, x.tear());
        due(NONE, x.undo());
        for (int s = 0; s < 4; s++) {
            due(MISSING, x.lays(s));
        }
        due(BEYOND, x.of(0, 0));
    }

    private static void law() {
        begin(2);
        NoseJury x = new NoseJury();
        for (int w = 0; w <= 4; w++) {
            due(w == 0 ? 0 : w - 1, x.law(0, w));
            due(w, x.now(1));
        }
        due(20, x.law(1, 1));
        due(1, x.law(1, 99));
        due(99, x.now(2));
        due(4, x.now(1));
        due(BEYOND, x.law(0, 5));
        due(BEYOND, x.law(0, -1));
        due(BEYOND, x.law(1, 0));
        due(BEYOND, x.law(1, 100));
        due(BEYOND, x.law(2, 1));
        due(BEYOND, x.law(-1, 1));
        due(BEYOND, x.law(0, LOW));
        due(BEYOND, x.law(1, HIGH));
        due(4, x.now(1));
        due(99, x.now(2));
    }

    private static void person() {
        begin(3);
        NoseJury x = new NoseJury();
        due(BEYOND, x.person(6, 0));
        due(BEYOND, x.person(-1, 0));
        due(BEYOND, x.person(0, 48));
        due(BEYOND, x.person(0, -1));
        due(0, x.count(0));
        for (int i = 0; i < 8; i++) {
            due(i, x.person(i % 6, i == 7 ? 47 : i));
        }
        due(8, x.count(0));
        due(FULL, x.person(0, 0));
        due(BEYOND, x.person(6, 0));
        due(BEYOND, x.person(0, 48));
        due(8, x.count(0));
        due(5, x.of(5, 0));
        due(47, x.of(7, 1));
        due(5, x.of(7, 2));
        due(0, x.of(7, 3));
        due(0, x.of(7, 4));
    }

    private static void of() {
        begin(4);
        NoseJury x = hallOf(3, 13, 40);
        x.did(1, 0, 9);
        x.did(1, 1, 7);
        x.did(1, 5, 99);
        x.set(1, 2, 8);
        x.set(1, 3, 1);
        due(3, x.of(1, 0));
        due(40, x.of(1, 1));
        due(8, x.of(1, 2));
        due(1, x.of(1, 3));
        due(115, x.of(1, 4));
        due(13 + 10 + 148, x.of(1, 5));
        due(0, x.of(0, 3));
        due(0, x.of(0, 5));
        due(BEYOND, x.of(1, 6));
        due(BEYOND, x.of(1, -1));
        due(BEYOND, x.of(2, 0));
        due(BEYOND, x.of(-1, 0));
        due(BEYOND, x.of(HIGH, HIGH));
    }

    private static void set() {
        begin(5);
        NoseJury x = hallOf(0, 13, 40);
        due(13, x.set(0, 1, 47));
        due(47, x.set(0, 1, 0));
        due(0, x.of(0, 1));
        due(5, x.set(0, 2, 9));
        due(9, x.set(0, 2, 0));
        due(0, x.set(0, 3, 1));
        due(1, x.set(0, 3, 0));
        due(40, x.of(1, 1));
        due(BEYOND, x.set(0, 1, 48));
        due(BEYOND, x.set(0, 1, -1));
        due(BEYOND, x.set(0, 2, 10));
        due(BEYOND, x.set(0, 2, -1));
        due(BEYOND, x.set(0, 3, 2));
        due(BEYOND, x.set(0, 3, -1));
        due(BEYOND, x.set(0, 0, 1));
        due(BEYOND, x.set(0, 4, 1));
        due(BEYOND, x.set(2, 1, 1));
        due(BEYOND, x.set(-1, 1, 1));
        due(0, x.of(0, 0));
        due(0, x.of(0, 1));
        due(0, x.of(0, 2));
        due(0, x.of(0, 3));
    }

    private static void did() {
        begin(6);
        NoseJury x = hallOf(0, 1, 2);
        due(0, x.did(0, 0, 99));
        due(99, x.did(0, 0, 0));
        due(0, x.did(0, 5, 7));
        due(7, x.scent(0, 5, 0));
        due(0, x.scent(1, 5, 0));
        due(0, x.scent(0, 0, 0));
        due(BEYOND, x.did(0, 0, 100));
        due(BEYOND, x.did(0, 0, -1));
        due(BEYOND, x.did(0, 6, 0));
        due(BEYOND, x.did(0, -1, 0));
        due(BEYOND, x.did(2, 0, 0));
        due(BEYOND, x.did(-1, 0, 0));
        due(7, x.of(0, 4));
    }

    private static void scent() {
        begin(7);
        int[][] offAtEven = {{31, 31}, {0, 31}, {21, 21}, {46, 46}, {10, 10}, {41, 41}};
        int[][] offOfFew = {{3, 3}, {0, 3}, {0, 0}, {4, 4}, {0, 0}, {0, 0}};
        for (int kind = 0; kind < 6; kind++) {
            NoseJury x = hallOf(kind, 0);
            for (int deed = 0; deed < 2; deed++) {
                x.did(0, deed, 31);
                due(31, x.scent(0, deed, 0));
                due(offAtEven[kind][deed], x.scent(0, deed, 1));
                x.did(0, deed, 3);
                due(offOfFew[kind][deed], x.scent(0, deed, 1));
            }
        }
        NoseJury y = hallOf(4, 0);
        y.hours(1);
        y.did(0, 2, 31);
        due(21, y.scent(0, 2, 1));
        y.did(0, 3, 9);
        due(0, y.scent(0, 3, 1));
        y.hours(1);
        due(27, y.scent(0, 2, 0));
        due(8, y.scent(0, 2, 1));
        due(BEYOND, y.scent(0, 2, 2));
        due(BEYOND, y.scent(0, 2, -1));
        due(BEYOND, y.scent(0, 6, 0));
        due(BEYOND, y.scent(0, -1, 0));
        due(BEYOND, y.scent(1, 0, 0));
        due(BEYOND, y.scent(-1, 0, 0));
    }

    private static void turn() {
        begin(8);
        NoseJury x = hallOf(0, 0, 0);
        for (int kind = 0; kind < 6; kind++) {
            due(kind == 0 ? 0 : kind - 1, x.turn(0, kind));
            due(kind, x.of(0, 0));
        }
        due(5, x.turn(0, 5));
        due(0, x.of(1, 0));
        due(BEYOND, x.turn(0, 6));
        due(BEYOND, x.turn(0, -1));
        due(BEYOND, x.turn(2, 0));
        due(BEYOND, x.turn(-1, 0));
        due(5, x.of(0, 0));
    }

    private static void as() {
        begin(9);
        boolean[][] under = {
            {true, false, false, false, false, false},
            {true, true, false, false, false, false},
            {true, false, true, false, false, false},
            {true, false, false, true, false, false},
            {true, false, true, false, true, false},
            {true, false, false, true, false, true},
        };
        for (int kind = 0; kind < 6; kind++) {
            NoseJury x = hallOf(kind, 0);
            x.set(0, 2, 7);
            for (int above = 0; above < 6; above++) {
                due(under[kind][above] ? 7 : KIND, x.as(0, above));
            }
            due(BEYOND, x.as(0, 6));
            due(BEYOND, x.as(0, -1));
            due(BEYOND, x.as(1, 0));
            due(BEYOND, x.as(-1, 0));
        }
    }

    private static void wash() {
        begin(10);
        NoseJury x = hallOf(1, 0, 0);
        x.did(0, 0, 99);
        x.did(0, 1, 2);
        x.did(0, 2, 1);
        x.did(0, 5, 5);
        x.did(1, 5, 5);
        due(66 + 2 + 1 + 4, x.wash(0));
        due(33, x.scent(0, 0, 0));
        due(0, x.scent(0, 1, 0));
        due(1, x.scent(0, 5, 0));
        due(5, x.of(1, 4));
        due(22 + 1, x.wash(0));
        due(BEYOND, x.wash(2));
        due(BEYOND, x.wash(-1));
    }

    private static void meet() {
        begin(11);
        NoseJury x = hallOf(0, 0, 47, 5);
        x.did(0, 0, 99);
        x.did(1, 1, 50);
        x.did(0, 1, 25);
        x.did(1, 2, 51);
        x.did(0, 2, 24);
        x.did(0, 3, 1);
        x.did(2, 4, 90);
        due(2, x.meet(0, 1));
        due(49, x.scent(1, 0, 0));
        due(99, x.scent(0, 0, 0));
        due(25, x.scent(0, 1, 0));
        due(50, x.scent(1, 1, 0));
        due(25, x.scent(0, 2, 0));
        due(0, x.scent(1, 3, 0));
        due(0, x.scent(1, 4, 0));
        due(0, x.meet(1, 0));
        due(BEYOND, x.meet(0, 0));
        due(BEYOND, x.meet(0, 3));
        due(BEYOND, x.meet(3, 0));
        due(BEYOND, x.meet(-1, 0));
        due(BEYOND, x.meet(0, -1));
    }

    private static void smells() {
        begin(12);
        // 9 is a row and a column from 0: 2 apart. 50 by NOSE 5 by 7 is 35.
        int[] byKind = {35, 35, 35, 70, 35, 73};
        int[] atOnePlace = {50, 0, 50, 100, 50, 103};
        for (int kind = 0; kind < 6; kind++) {
            NoseJury x = hallOf(0, 0, 0);
            x.turn(0, kind);
            x.did(1, 2, 50);
            x.set(1, 1, 9);
            due(byKind[kind], x.smells(0, 1, 2));
            x.set(1, 1, 0);
            due(atOnePlace[kind], x.smells(0, 1, 2));
            due(0, x.smells(0, 1, 1));
            x.set(0, 3, 1);
            due(0, x.smells(0, 1, 2));
            x.set(0, 3, 0);
            x.set(0, 2, 0);
            due(0, x.smells(0, 1, 2));
        }
        NoseJury y = hallOf(0, 0, 47);
        y.did(1, 0, 99);
        y.set(0, 2, 9);
        due(99 * 9 / 17, y.smells(0, 1, 0));
        y.turn(1, 1);
        due(0, y.smells(0, 1, 0));
        due(BEYOND, y.smells(0, 0, 0));
        due(BEYOND, y.smells(0, 2, 0));
        due(BEYOND, y.smells(2, 0, 0));
        due(BEYOND, y.smells(-1, 0, 0));
        due(BEYOND, y.smells(0, -1, 0));
        due(BEYOND, y.smells(0, 1, 6));
        due(BEYOND, y.smells(0, 1, -1));
    }

    private static void smellsByWind() {
        // 27 is row 3, column 3; 19, 28, 35 and 26 are each 1 off, up, right, down, left. 51 by 5 by 6 is 42.
        int[] places = {19, 28, 35, 26};
        for (int way = 0; way < 4; way++) {
            NoseJury x = hallOf(0, 27, places[way]);
            x.did(0, 0, 51);
            x.did(1, 0, 51);
            for (int w = 0; w <= 4; w++) {
                x.law(0, w);
                int opposite = (way + 2) % 4 + 1;
                int there = w == way + 1 ? 84 : w == opposite ? 21 : 42;
                int here = w == opposite ? 84 : w == way + 1 ? 21 : 42;
                due(there, x.smells(1, 0, 0));
                due(here, x.smells(0, 1, 0));
            }
        }
        // The half is cut after the hound's 3 are there: 2 times 1 and 3 is 5, half of it 2, twice it 10.
        NoseJury y = hallOf(5, 0, 1);
        y.turn(1, 0);
        y.did(1, 0, 2);
        due(5, y.smells(0, 1, 0));
        y.law(0, 2);
        due(2, y.smells(0, 1, 0));
        y.law(0, 4);
        due(10, y.smells(0, 1, 0));
    }

    private static void deed() {
        begin(13);
        NoseJury x = hallOf(0, 0, 1);
        due(NONE, x.deed(0, 1));
        // 1 by 5 by 6 is nothing; of 2 it is 1.
        x.did(1, 3, 1);
        due(NONE, x.deed(0, 1));
        x.did(1, 3, 2);
        due(3, x.deed(0, 1));
        x.did(1, 1, 40);
        x.did(1, 4, 40);
        due(1, x.deed(0, 1));
        x.did(1, 5, 42);
        due(5, x.deed(0, 1));
        x.did(1, 0, 99);
        due(0, x.deed(0, 1));
        x.turn(1, 1);
        due(5, x.deed(0, 1));
        x.set(0, 3, 1);
        due(NONE, x.deed(0, 1));
        due(NONE, x.deed(1, 0));
        due(BEYOND, x.deed(0, 0));
        due(BEYOND, x.deed(0, 2));
        due(BEYOND, x.deed(2, 0));
        due(BEYOND, x.deed(-1, 0));
    }

    private static void guilty() {
        begin(14);
        // All 2 apart of the one at 0, who gives off 28: 28 by 5 by 7 is 20, just what is due.
        NoseJury x = hallOf(0, 0, 2, 9, 16, 2, 2, 9);
        for (int p = 1; p <= 5; p++) {
            x.turn(p, p);
        }
        x.did(0, 3, 28);
        due(2 + 4 + 8 + 16 + 32 + 64, x.guilty(0));
        x.law(1, 21);
        due(8 + 32, x.guilty(0));
        x.law(1, 20);
        x.did(0, 3, 27);
        due(8 + 32, x.guilty(0));
        x.did(0, 3, 99);
        x.set(2, 1, 1);
        x.set(4, 1, 0);
        due(2 + 8 + 32 + 64, x.guilty(0));
        x.set(1, 1, 0);
        due(8 + 32 + 64, x.guilty(0));
        x.set(6, 3, 1);
        due(8 + 32, x.guilty(0));
        due(0, x.guilty(1));
        // One with a scent of its own doesn't find itself guilty.
        NoseJury y = hallOf(0, 0);
        y.did(0, 0, 99);
        due(0, y.guilty(0));
        due(BEYOND, y.guilty(1));
        due(BEYOND, y.guilty(-1));
    }

    private static void convicts() {
        begin(15);
        // 1 and 2 find the one at 0 guilty, 3 and 4 have colds.
        NoseJury x = hallOf(0, 0, 1, 2, 3, 4);
        x.did(0, 0, 99);
        x.set(3, 3, 1);
        x.set(4, 3, 1);
        due(1, x.convicts(2, 0));
        due(0, x.convicts(8, 0));
        due(0, x.convicts(2 + 8, 0));
        due(1, x.convicts(2 + 4 + 8, 0));
        due(0, x.convicts(2 + 8 + 16, 0));
        due(0, x.convicts(2 + 4 + 8 + 16, 0));
        due(STATE, x.convicts(1, 0));
        due(STATE, x.convicts(31, 0));
        due(BEYOND, x.convicts(0, 0));
        due(BEYOND, x.convicts(32, 0));
        due(BEYOND, x.convicts(33, 0));
        due(BEYOND, x.convicts(-2, 0));
        due(BEYOND, x.convicts(LOW, 0));
        due(BEYOND, x.convicts(2, 5));
        due(BEYOND, x.convicts(2, -1));
        due(0, x.convicts(1, 1));
    }

    private static void hours() {
        begin(16);
        NoseJury x = hallOf(0, 0, 0, 1);
        x.did(0, 0, 80);
        x.did(0, 5, 41);
        x.did(1, 0, 9);
        x.did(2, 1, 1);
        // 80 is 71 then; 9 is 8, less than a quarter of 80; of 41 go 20, and 10 cling.
        due(71 + 20 + 21 + 10, x.hours(1));
        due(71, x.scent(0, 0, 0));
        due(20, x.scent(1, 0, 0));
        due(21, x.scent(0, 5, 0));
        due(10, x.scent(1, 5, 0));
        due(0, x.scent(2, 1, 0));
        due(0, x.scent(2, 0, 0));
        due(1, x.now(0));
        NoseJury y = hallOf(0, 0);
        y.did(0, 5, 3);
        due(2, y.hours(1));
        due(1, y.hours(1));
        due(1, y.hours(60));
        due(62, y.now(0));
        due(BEYOND, y.hours(0));
        due(BEYOND, y.hours(61));
        due(BEYOND, y.hours(-1));
        due(BEYOND, y.hours(HIGH));
        for (int i = 0; i < 165; i++) {
            y.hours(60);
        }
        due(9962, y.now(0));
        due(STATE, y.hours(38));
        due(BEYOND, y.hours(61));
        due(1, y.hours(37));
        due(9999, y.now(0));
        due(STATE, y.hours(1));
        due(9999, y.now(0));
    }

    private static void now() {
        begin(17);
        NoseJury x = hallOf(0, 0, 1, 2);
        x.did(1, 0, 50);
        x.did(2, 3, 10);
        x.law(0, 3);
        x.law(1, 12);
        due(0, x.now(0));
        due(3, x.now(1));
        due(12, x.now(2));
        due(60, x.now(3));
        due(2, x.now(4));
        x.law(1, 8);
        due(6, x.now(4));
        x.did(0, 5, 99);
        due(7, x.now(4));
        x.hours(2);
        due(2, x.now(0));
        due(BEYOND, x.now(5));
        due(BEYOND, x.now(-1));
    }

    private static void on() {
        begin(18);
        NoseJury x = hallOf(0, 0, 0, 1);
        x.did(0, 2, 80);
        x.did(0, 5, 8);
        due(80, x.on(0, 2, 0));
        due(71, x.on(0, 2, 1));
        due(63, x.on(0, 2, 2));
        due(20, x.on(1, 2, 1));
        due(17, x.on(1, 2, 2));
        due(0, x.on(2, 2, 60));
        due(1, x.on(0, 5, 60));
        due(80, x.scent(0, 2, 0));
        due(0, x.now(0));
        due(BEYOND, x.on(0, 2, 61));
        due(BEYOND, x.on(0, 2, -1));
        due(BEYOND, x.on(0, 6, 0));
        due(BEYOND, x.on(0, -1, 0));
        due(BEYOND, x.on(3, 0, 0));
        due(BEYOND, x.on(-1, 0, 0));
    }

    private static void clean() {
        begin(19);
        // 40 by 5 by 6 is 33; 35: 29; 31: 25; 27: 22; 24: 20; 21: 17.
        NoseJury x = hallOf(0, 0, 1);
        x.did(0, 0, 40);
        due(5, x.clean(0));
        due(0, x.clean(1));
        due(40, x.scent(0, 0, 0));
        due(0, x.now(0));
        x.law(1, 1);
        x.set(1, 1, 0);
        x.did(0, 5, 1);
        // What DEED 5 leaves, 1, never goes.
        due(NONE, x.clean(0));
        // A PERFUMER gives off half at even hours: 40 less 10, half is 15; at 1: 35 less 10.
        NoseJury y = hallOf(4, 0, 1);
        y.turn(1, 0);
        y.did(0, 0, 40);
        due(0, y.clean(0));
        y.hours(1);
        due(1, y.clean(0));
        due(BEYOND, y.clean(2));
        due(BEYOND, y.clean(-1));
    }

    private static void wind() {
        begin(20);
        // Without wind 24 by 5 by 6 is 20, so all but a half finds it guilty.
        NoseJury x = hallOf(0, 9, 1);
        x.did(0, 0, 24);
        due(3, x.wind(0));
        x.set(1, 1, 10);
        due(4, x.wind(0));
        x.set(1, 1, 17);
        due(1, x.wind(0));
        x.set(1, 1, 8);
        due(2, x.wind(0));
        x.did(0, 0, 23);
        due(0, x.wind(0));
        x.law(0, 3);
        due(0, x.wind(0));
        due(3, x.now(1));
        x.did(0, 0, 99);
        x.set(1, 2, 9);
        due(0, x.wind(0));
        due(BEYOND, x.wind(2));
        due(BEYOND, x.wind(-1));
    }

    private static void seat() {
        begin(21);
        // 24 by 5 by 6 is 20, by 7 it is 17: 2 apart is far enough.
        NoseJury x = hallOf(0, 0, 0);
        x.did(0, 0, 24);
        due(2, x.seat(0));
        due(0, x.of(0, 1));
        x.set(1, 1, 47);
        due(0, x.seat(0));
        x.did(0, 0, 99);
        x.set(1, 2, 9);
        due(0, x.seat(0));
        x.turn(1, 2);
        due(39, x.seat(0));
        x.turn(1, 1);
        due(47, x.seat(0));
        due(BEYOND, x.seat(2));
        due(BEYOND, x.seat(-1));
    }

    private static void bath() {
        begin(22);
        // ON 1 hour 30 is 26: 26 by 5 by 6 is 21. Washed, 10 is 8.
        NoseJury x = hallOf(0, 0, 1, 9);
        x.did(1, 0, 30);
        due(1, x.bath(1));
        due(30, x.scent(1, 0, 0));
        due(0, x.now(0));
        due(NONE, x.bath(0));
        // 28 is 25 then: 20; 27 is 24: 20; 26 is 23: 19, and nobody finds it guilty as it is.
        x.did(1, 0, 28);
        due(1, x.bath(1));
        x.did(1, 0, 26);
        // Now two find it guilty, in an hour none: that is not the washing's.
        due(5, x.guilty(1));
        due(NONE, x.bath(1));
        // What clings to 1 in the hour comes from 0, so that 0 has to wash: 99 by 4 is 24.
        NoseJury y = hallOf(0, 0, 0, 1);
        y.did(0, 0, 99);
        due(0, y.bath(1));
        // With a scent of its own beside what clings, no one washing is enough.
        NoseJury z = hallOf(0, 0, 0, 1);
        z.did(0, 0, 99);
        z.did(1, 0, 30);
        due(NONE, z.bath(1));
        due(BEYOND, z.bath(3));
        due(BEYOND, z.bath(-1));
    }

    private static void kind() {
        begin(23);
        NoseJury x = hallOf(3, 0, 1);
        x.did(0, 0, 30);
        due(1, x.kind(0));
        due(3, x.of(0, 0));
        x.did(0, 0, 0);
        due(0, x.kind(0));
        // 30 less 10 is 20: 16. 30: 25.
        x.did(0, 1, 30);
        x.turn(1, 0);
        due(2, x.kind(0));
        // 50 less 10 is 40: 33, but half of it, 20, is 16; with hours that are odd none helps.
        x.did(0, 1, 50);
        due(4, x.kind(0));
        x.hours(1);
        x.did(0, 1, 50);
        due(0, x.kind(0));
        due(BEYOND, x.kind(2));
        due(BEYOND, x.kind(-1));
    }

    private static void dueOf() {
        begin(24);
        NoseJury x = hallOf(0, 0, 0);
        due(1, x.due(0));
        x.did(0, 2, 1);
        due(2, x.due(0));
        x.did(0, 2, 98);
        due(99, x.due(0));
        due(20, x.now(2));
        x.did(0, 2, 99);
        due(NONE, x.due(0));
        x.turn(1, 2);
        due(1, x.due(0));
        due(BEYOND, x.due(2));
        due(BEYOND, x.due(-1));
    }

    private static void jury() {
        begin(25);
        // 2 and 4 find the one at 0 guilty, 1, 3 and 5 have colds.
        NoseJury x = hallOf(0, 0, 1, 2, 3, 4, 5);
        x.did(0, 0, 99);
        x.set(1, 3, 1);
        x.set(3, 3, 1);
        x.set(5, 3, 1);
        due(4, x.jury(0, 1));
        due(4 + 16, x.jury(0, 2));
        due(2 + 4 + 16, x.jury(0, 3));
        due(NONE, x.jury(0, 4));
        due(NONE, x.jury(0, 5));
        due(NONE, x.jury(0, 6));
        due(NONE, x.jury(0, 7));
        due(NONE, x.jury(1, 1));
        due(BEYOND, x.jury(0, 0));
        due(BEYOND, x.jury(0, 8));
        due(BEYOND, x.jury(0, -1));
        due(BEYOND, x.jury(6, 1));
        due(BEYOND, x.jury(-1, 1));
        NoseJury y = hallOf(0, 0, 0, 0, 0, 0, 0, 0, 0);
        y.did(3, 0, 99);
        due(255 - 8, y.jury(3, 7));
        due(1, y.jury(3, 1));
    }

    private static void juries() {
        begin(26);
        NoseJury x = hallOf(0, 0, 1, 2, 3, 4, 5);
        x.did(0, 0, 99);
        x.set(1, 3, 1);
        x.set(3, 3, 1);
        x.set(5, 3, 1);
        due(2, x.juries(0, 1));
        due(1, x.juries(0, 2));
        due(3, x.juries(0, 3));
        due(0, x.juries(0, 4));
        due(0, x.juries(0, 7));
        due(0, x.juries(1, 1));
        due(BEYOND, x.juries(0, 0));
        due(BEYOND, x.juries(0, 8));
        due(BEYOND, x.juries(6, 1));
        due(BEYOND, x.juries(-1, 1));
        NoseJury y = hallOf(0, 0, 0, 0, 0, 0, 0, 0, 0);
        y.did(3, 0, 99);
        due(7, y.juries(3, 1));
        due(35, y.juries(3, 3));
        due(1, y.juries(3, 7));
    }

    private static void from() {
        begin(27);
        NoseJury x = hallOf(0, 5, 5, 5, 6);
        x.did(1, 0, 80);
        x.did(2, 0, 80);
        x.did(3, 0, 99);
        due(1, x.from(0, 0));
        x.did(2, 0, 81);
        due(2, x.from(0, 0));
        due(NONE, x.from(1, 0));
        due(NONE, x.from(3, 0));
        // 81 by 4 is 20; of 23 are left 20, of 22 are left 19.
        x.did(0, 0, 23);
        due(NONE, x.from(0, 0));
        x.did(0, 0, 22);
        due(2, x.from(0, 0));
        // Of 41 of DEED 5 are left 21, of 39 are left 20, of 38 are left 19.
        x.did(2, 5, 80);
        x.did(0, 5, 39);
        due(NONE, x.from(0, 5));
        x.did(0, 5, 38);
        due(2, x.from(0, 5));
        // A quarter of 3 is nothing; of 4 it is 1.
        x.did(1, 3, 3);
        due(NONE, x.from(0, 3));
        x.did(1, 3, 4);
        due(1, x.from(0, 3));
        // The first has most, and gives it to both of the others.
        x.did(0, 4, 60);
        x.did(1, 4, 9);
        due(0, x.from(2, 4));
        due(0, x.from(1, 4));
        due(BEYOND, x.from(0, 6));
        due(BEYOND, x.from(0, -1));
        due(BEYOND, x.from(4, 0));
        due(BEYOND, x.from(-1, 0));
    }

    private static void nose() {
        begin(28);
        NoseJury x = hallOf(0, 0, 1);
        x.did(1, 0, 40);
        due(3, x.nose(0, 1));
        x.set(0, 3, 1);
        x.set(0, 2, 0);
        due(3, x.nose(0, 1));
        due(1, x.of(0, 3));
        due(0, x.of(0, 2));
        x.did(1, 0, 14);
        due(9, x.nose(0, 1));
        x.did(1, 0, 13);
        due(NONE, x.nose(0, 1));
        x.did(1, 0, 99);
        x.turn(0, 2);
        due(NONE, x.nose(0, 1));
        x.set(0, 1, 3);
        due(2, x.nose(0, 1));
        x.turn(0, 5);
        due(1, x.nose(0, 1));
        due(BEYOND, x.nose(0, 0));
        due(BEYOND, x.nose(0, 2));
        due(BEYOND, x.nose(2, 0));
        due(BEYOND, x.nose(0, -1));
        due(BEYOND, x.nose(-1, 0));
    }

    private static void feed() {
        begin(29);
        NoseJury x = new NoseJury();
        due(BEYOND, x.feed(0, 0));
        due(BEYOND, x.feed(0, 5));
        due(BEYOND, x.feed(0, -1));
        // "wind", " 1;", "du", "e", and " 4 " with a byte above that isn't taken.
        due(4, x.feed(0x77696e64, 4));
        due(7, x.feed(0x5820313b, 3));
        due(9, x.feed(0x58586475, 2));
        due(10, x.feed(0x58585865, 1));
        due(13, x.feed(0xff203420, 3));
        due(13, x.count(1));
        due(2, x.hall());
        due(1, x.now(1));
        due(4, x.now(2));
        // Bytes above 127 are bytes, too.
        due(4, x.feed(-1, 4));
        due(-1, x.hall());
        for (int i = 1; i <= 29; i++) {
            due(4 * i, x.feed(0x20202020, 4));
        }
        due(118, x.feed(0x2020, 2));
        due(FULL, x.feed(0, 3));
        due(FULL, x.feed(0, 4));
        due(BEYOND, x.feed(0, 5));
        due(118, x.count(1));
        due(120, x.feed(0x2020, 2));
        due(FULL, x.feed(0, 1));
        due(120, x.count(1));
    }

    private static void wipe() {
        begin(30);
        NoseJury x = new NoseJury();
        due(0, x.wipe());
        x.feed(0x77696e64, 4);
        x.feed(0x20, 1);
        due(5, x.wipe());
        due(0, x.count(1));
        due(0, x.wipe());
        due(1, told(x, "wind 2"));
        due(2, x.now(1));
    }

    private static void hall() {
        begin(31);
        NoseJury x = hallOf(2, 7);
        x.hours(3);
        due(1, told(x, "cook at 47"));
        due(0, x.count(1));
        due(2, x.count(0));
        due(1, x.of(1, 0));
        due(47, x.of(1, 1));
        due(5, x.of(1, 2));
        due(0, x.of(1, 3));
        due(3, told(x, "  hound at 0 nose 9 cold did 5 99 ;wind3;due099 "));
        due(5, x.of(2, 0));
        due(0, x.of(2, 1));
        due(9, x.of(2, 2));
        due(1, x.of(2, 3));
        due(99, x.scent(2, 5, 0));
        due(99, x.of(2, 4));
        due(3, x.now(1));
        due(99, x.now(2));
        due(3, x.now(0));
        due(4, told(x, "dog at 1 nose 0;perfumer at 2 cold;barrister at 3 did 0 0;person at 00000000004 did 4 7"));
        due(7, x.count(0));
        due(3, x.of(3, 0));
        due(0, x.of(3, 2));
        due(0, x.of(3, 3));
        due(4, x.of(4, 0));
        due(1, x.of(4, 3));
        due(2, x.of(5, 0));
        due(0, x.of(5, 4));
        due(0, x.of(6, 0));
        due(4, x.of(6, 1));
        due(7, x.scent(6, 4, 0));
        due(1, told(x, "wind 0"));
        due(0, x.now(1));
        due(2, told(x, "wind 1;wind 4"));
        due(4, x.now(1));
        due(1, told(x, "person at 3nose4cold did5 6"));
        due(8, x.count(0));
        due(6, x.scent(7, 5, 0));
        due(0, x.status(-1));
    }

    private static void hallFaults() {
        String[] texts = {
            "", "   ", ";", "wind", "wind ", "wind 5", "wind x", "wind ;", "wind 1;", "wind 1; ", "wind 1;;",
            "wind 1 1", "wind 1 wind 2", "Wind 1", "wInd 1", "wind\t1", "wind 1\n", "wind -1", "due 0", "due 100",
            "due 1000", "due 4294967297", "judge at 1", "5", "person", "person on 1", "person at", "person at 48",
            "person at 1 at 2", "person at 1 nose", "person at 1 nose 10", "person at 1 nose 1 nose 1",
            "person at 1 cold cold", "person at 1 cold nose 1", "person at 1 did", "person at 1 did 6 1",
            "person at 1 did 5", "person at 1 did 5 100", "person at 1 did 5 1 did 4 1", "person at 1 did 5 1 cold",
            "person at 1 did 5 1 2", "persons at 1", "personat 1", "perso at 1", "person at 1 nosecold",
            "wind 1;due 5;person at 5;x", "wind 1,due 5", "at 1", "cold", "person at 1;nose 5", "person at 1 colder",
            "wind 1 ; person at 3 did 3 3 ; due 0", "lind 1", "windz 1", "bog at 1", "person it 1", "zwind 1",
            "wind 1;wind x", "wind 1;3 2", "person 1 1",
        };
        int[] faults = {
            0, 3, 0, 4, 5, 5, 5, 5, 7, 8, 7,
            7, 7, 0, 0, 4, 6, 5, 4, 4,
            4, 4, 0, 0, 6, 7, 9, 10,
            12, 16, 17, 19,
            17, 17, 15, 16,
            17, 18, 20, 20,
            20, 0, 0, 0, 12,
            25, 6, 0, 0, 12, 12,
            35, 0, 0, 0, 7, 0,
            12, 7, 7,
        };
        due(texts.length, faults.length);
        for (int i = 0; i < texts.length && i < faults.length; i++) {
            NoseJury x = hallOf(0, 0);
            int got = told(x, texts[i]);
            if (got != -1 - faults[i]) {
                System.out.println("the text is: " + texts[i]);
            }
            due(-1 - faults[i], got);
            due(0, x.count(1));
            due(1, x.count(0));
            due(0, x.now(1));
            due(20, x.now(2));
            due(0, x.status(-1));
        }
        // A 9th is a fault at the name of its KIND, and none of the text comes then.
        NoseJury y = hallOf(0, 1, 2, 3, 4, 5, 6);
        due(-1 - 29, told(y, "wind 1;dog at 1; cook at 2 ; hound at 99"));
        due(6, y.count(0));
        due(0, y.now(1));
        due(2, told(y, "dog at 1; cook at 2"));
        due(-1, told(y, "dog at 1"));
        due(-1 - 7, told(y, "wind 2;dog at 99"));
        due(0, y.now(1));
        due(1, told(y, "wind 2"));
        // 120 bytes are all read.
        NoseJury z = new NoseJury();
        for (int i = 0; i < 19; i++) {
            for (int b : new int[] {'d', 'u', 'e', '7', ';', ' '}) {
                z.feed(b, 1);
            }
        }
        due(114, z.count(1));
        due(20, told(z, "due 07"));
        due(7, z.now(2));
    }

    private static void sheet() {
        begin(32);
        NoseJury x = new NoseJury();
        due(40, x.sheet(0, 8, 40));
        due(0, x.sheet(1, 16, 0));
        due(3, x.sheet(3, 64, 3));
        due(0, x.lays(1));
        due(0, x.write(3, 0, 8));
        due(0, x.write(3, 2, 9));
        due(3, x.sheet(3, 64, 3));
        due(0, x.write(3, 0, 8));
        due(0, x.write(3, 2, 9));
        due(0, x.sheet(3, 0, 7));
        due(MISSING, x.write(3, 0, 0));
        due(0, x.sheet(2, 0, 0));
        due(BEYOND, x.sheet(4, 8, 1));
        due(BEYOND, x.sheet(-1, 8, 1));
        due(BEYOND, x.sheet(0, 32, 1));
        due(BEYOND, x.sheet(0, -8, 1));
        due(BEYOND, x.sheet(0, 7, -1));
        due(BEYOND, x.sheet(4, 8, -1));
        due(SIZE, x.sheet(0, 8, -1));
        due(SIZE, x.sheet(0, 0, -1));
        due(SIZE, x.sheet(0, 0, LOW));
        due(BEYOND, x.sheet(0, 8, 41));
        due(BEYOND, x.sheet(0, 0, 41));
        due(BEYOND, x.sheet(0, 0, HIGH));
        due(0, x.write(0, 39, 1));
    }

    private static void write() {
        begin(33);
        NoseJury x = new NoseJury();
        x.sheet(0, 8, 2);
        x.sheet(1, 16, 2);
        x.sheet(2, 64, 2);
        due(0, x.write(0, 0, 127));
        due(127, x.write(0, 0, 0x1234567801L));
        due(1, x.write(0, 0, 255));
        due(-1, x.write(0, 0, 128));
        due(-128, x.write(0, 0, 0));
        due(0, x.write(0, 1, 0));
        due(0, x.write(1, 1, 32767));
        due(32767, x.write(1, 1, 0x7fffffff00010002L));
        due(2, x.write(1, 1, 0xffffL));
        due(-1, x.write(1, 1, 0x8000L));
        due(-32768, x.write(1, 1, 0));
        due(0, x.write(2, 0, Long.MIN_VALUE));
        due(Long.MIN_VALUE, x.write(2, 0, Long.MAX_VALUE));
        due(Long.MAX_VALUE, x.write(2, 0, BEYOND));
        due(BEYOND, x.write(2, 0, 0));
        due(0, x.status(-1));
        due(BEYOND, x.write(2, 2, 0));
        due(BEYOND, x.write(2, -1, 0));
        due(BEYOND, x.write(2, LOW, 0));
        due(MISSING, x.write(3, 0, 0));
        due(MISSING, x.write(3, -1, 0));
        due(BEYOND, x.write(4, 0, 0));
        due(BEYOND, x.write(-1, 0, 0));
        due(7, x.status(-1));
    }

    private static void copy() {
        begin(34);
        NoseJury x = new NoseJury();
        x.sheet(0, 16, 5);
        x.sheet(1, 16, 3);
        x.sheet(2, 8, 3);
        for (int i = 0; i < 5; i++) {
            x.write(0, i, 10 + i);
        }
        due(2, x.copy(0, 3, 1, 1, 2));
        due(0, x.write(1, 0, 0));
        due(13, x.write(1, 1, 0));
        due(14, x.write(1, 2, 0));
        due(4, x.copy(0, 0, 0, 1, 4));
        due(10, x.write(0, 0, 10));
        due(10, x.write(0, 1, 10));
        due(11, x.write(0, 2, 11));
        due(13, x.write(0, 4, 13));
        due(0, x.copy(0, 5, 1, 3, 0));
        due(BEYOND, x.copy(0, 6, 1, 3, 0));
        due(BEYOND, x.copy(0, 5, 1, 4, 0));
        due(BEYOND, x.copy(0, 3, 1, 0, 3));
        due(BEYOND, x.copy(0, 0, 1, 1, 3));
        due(BEYOND, x.copy(0, 0, 1, 0, 4));
        due(BEYOND, x.copy(1, 0, 0, 0, 4));
        due(BEYOND, x.copy(0, -1, 1, 0, 1));
        due(BEYOND, x.copy(0, 0, 1, -1, 1));
        due(BEYOND, x.copy(0, 0, 1, 0, -1));
        due(BEYOND, x.copy(0, HIGH, 1, HIGH, HIGH));
        due(BEYOND, x.copy(0, 1, 1, 1, HIGH));
        due(KIND, x.copy(0, 0, 2, 0, 1));
        due(KIND, x.copy(0, -1, 2, 0, 9));
        due(MISSING, x.copy(0, 0, 3, 0, 1));
        due(MISSING, x.copy(3, 0, 0, 0, -1));
        due(MISSING, x.copy(3, 0, 3, 0, 0));
        due(BEYOND, x.copy(4, 0, 3, 0, 0));
        due(BEYOND, x.copy(3, 0, 4, 0, 0));
        due(BEYOND, x.copy(-1, 0, 0, 0, 0));
        due(BEYOND, x.copy(0, 0, -1, 0, 0));
    }

    private static void lays() {
        begin(35);
        NoseJury x = hallOf(0, 1, 2, 3, 4, 5);
        x.sheet(0, 64, 5);
        x.write(0, 0, 47);
        x.write(0, 1, 48);
        x.write(0, 2, -1);
        x.write(0, 3, 0);
        x.write(0, 4, 0x100000001L);
        due(2, x.lays(0));
        due(47, x.of(0, 1));
        due(2, x.of(1, 1));
        due(3, x.of(2, 1));
        due(0, x.of(3, 1));
        due(5, x.of(4, 1));
        x.sheet(1, 8, 40);
        due(5, x.lays(1));
        x.sheet(2, 16, 1);
        x.write(2, 0, 9);
        due(1, x.lays(2));
        due(9, x.of(0, 1));
        due(0, x.of(1, 1));
        due(MISSING, x.lays(3));
        due(BEYOND, x.lays(4));
        due(BEYOND, x.lays(-1));
    }

    private static void book() {
        begin(36);
        // 99 by 9 by 5 is 178; 89: 160; 80: 144; 71: 127.
        NoseJury x = hallOf(0, 0, 0);
        x.set(0, 2, 9);
        x.did(1, 0, 99);
        x.sheet(0, 16, 4);
        x.sheet(1, 8, 4);
        x.sheet(2, 64, 0);
        due(4, x.book(0, 0, 1, 0));
        due(0, x.book(2, 0, 1, 0));
        due(99, x.scent(1, 0, 0));
        due(0, x.now(0));
        due(178, x.write(0, 0, 0));
        due(160, x.write(0, 1, 0));
        due(144, x.write(0, 2, 0));
        due(127, x.write(0, 3, 0));
        due(4, x.book(1, 0, 1, 0));
        due(178 - 256, x.write(1, 0, 0));
        due(127, x.write(1, 3, 0));
        // A perfumer's hours: half of what is above 10 while they are even.
        x.turn(1, 4);
        due(4, x.book(0, 0, 1, 0));
        due(44 * 9 / 5, x.write(0, 0, 0));
        due(79 * 9 / 5, x.write(0, 1, 0));
        due(35 * 9 / 5, x.write(0, 2, 0));
        due(61 * 9 / 5, x.write(0, 3, 0));
        x.sheet(0, 64, 40);
        due(40, x.book(0, 0, 1, 0));
        due(44 * 9 / 5, x.write(0, 0, 0));
        due(0, x.write(0, 39, 0));
        due(BEYOND, x.book(0, 0, 0, 0));
        due(BEYOND, x.book(0, 0, 2, 0));
        due(BEYOND, x.book(0, 2, 0, 0));
        due(BEYOND, x.book(0, -1, 0, 0));
        due(BEYOND, x.book(0, 0, 1, 6));
        due(BEYOND, x.book(0, 0, 1, -1));
        due(MISSING, x.book(3, 0, 1, 0));
        due(MISSING, x.book(3, 0, 0, 9));
        due(BEYOND, x.book(4, 0, 1, 0));
        due(BEYOND, x.book(-1, 0, 1, 0));
    }

    private static void read() {
        begin(37);
        NoseJury x = hallOf(0, 0, 0);
        x.sheet(0, 16, 1);
        x.did(1, 1, 77);
        // At 5 by 5 each scent smells as itself.
        x.write(0, 0, 30);
        due(1, x.read(0, 0, 1, 1));
        x.write(0, 0, 99);
        due(1, x.read(0, 0, 1, 1));
        x.write(0, 0, 100);
        due(0, x.read(0, 0, 1, 1));
        // With a NOSE of 1 by 5 there are five scents for each.
        x.set(0, 2, 1);
        x.write(0, 0, 3);
        due(5, x.read(0, 0, 1, 1));
        due(77, x.scent(1, 1, 0));
        // 15, 16, 17, 18, 19 smell as 3; an hour later 13, 14, 15, 16, 17 do: as 2 the first two.
        x.sheet(0, 16, 2);
        x.write(0, 0, 3);
        x.write(0, 1, 2);
        due(2, x.read(0, 0, 1, 1));
        x.write(0, 1, 3);
        due(3, x.read(0, 0, 1, 1));
        x.sheet(1, 64, 0);
        due(100, x.read(1, 0, 1, 1));
        // What another one beside it has clings to it: 99 by 4 is 24, whatever below 28 it has now.
        x.person(0, 0);
        x.set(0, 2, 5);
        x.did(2, 0, 99);
        x.sheet(2, 64, 2);
        x.write(2, 0, 12);
        x.write(2, 1, 24);
        due(1, x.read(2, 0, 1, 0));
        due(BEYOND, x.read(0, 0, 0, 0));
        due(BEYOND, x.read(0, 0, 3, 0));
        due(BEYOND, x.read(0, 3, 0, 0));
        due(BEYOND, x.read(0, 0, -1, 0));
        due(BEYOND, x.read(0, 0, 1, 6));
        due(BEYOND, x.read(0, 0, 1, -1));
        due(MISSING, x.read(3, 0, 1, 0));
        due(MISSING, x.read(3, 9, 9, 9));
        due(BEYOND, x.read(4, 0, 1, 0));
        due(BEYOND, x.read(-1, 0, 1, 0));
    }

    private static void image() {
        begin(38);
        NoseJury x = hallOf(4, 3);
        x.set(0, 2, 8);
        x.set(0, 3, 1);
        x.did(0, 4, 44);
        x.law(0, 3);
        x.law(1, 33);
        x.hours(1);
        x.did(0, 4, 44);
        due(1, x.image());
        x.sheet(0, 8, 1);
        x.feed(0x41, 1);
        x.turn(0, 1);
        x.set(0, 1, 0);
        x.set(0, 2, 0);
        x.set(0, 3, 0);
        x.hours(9);
        x.law(0, 1);
        x.law(1, 1);
        x.person(0, 0);
        due(1, x.undo());
        due(1, x.count(0));
        due(4, x.of(0, 0));
        due(3, x.of(0, 1));
        due(8, x.of(0, 2));
        due(1, x.of(0, 3));
        due(44, x.scent(0, 4, 0));
        due(1, x.now(0));
        due(3, x.now(1));
        due(33, x.now(2));
        // The tape and the sheets are not of it.
        due(1, x.count(1));
        due(1, x.lays(0));
    }

    private static void undo() {
        begin(39);
        NoseJury x = new NoseJury();
        due(NONE, x.undo());
        x.image();
        x.person(3, 3);
        x.did(0, 0, 50);
        x.set(0, 3, 1);
        due(0, x.undo());
        due(BEYOND, x.of(0, 0));
        // One who comes now has nothing of the one who was taken away.
        due(0, x.person(0, 1));
        due(0, x.of(0, 4));
        due(0, x.of(0, 3));
        due(1, x.image());
        x.person(0, 2);
        due(1, x.undo());
        x.person(0, 3);
        x.person(0, 4);
        due(1, x.undo());
        due(1, x.count(0));
        due(2, x.status(-1));
    }

    private static void tear() {
        begin(40);
        NoseJury x = new NoseJury();
        due(0, x.tear());
        x.image();
        x.image();
        x.person(0, 0);
        due(1, x.tear());
        due(0, x.tear());
        due(NONE, x.undo());
        due(1, x.count(0));
        due(1, x.image());
        due(1, x.undo());
    }

    private static void count() {
        begin(41);
        NoseJury x = hallOf(0, 0, 1, 2);
        x.set(1, 3, 1);
        x.set(2, 3, 1);
        x.set(2, 2, 9);
        x.feed(0, 3);
        due(3, x.count(0));
        due(3, x.count(1));
        due(2, x.count(2));
        due(19, x.count(3));
        due(BEYOND, x.count(4));
        due(BEYOND, x.count(-1));
    }

    /** With all 8 there, what goes over people must end with the last of them. */
    private static void fullHall() {
        NoseJury x = hallOf(0, 0, 0, 0, 0, 0, 0, 0, 0);
        x.did(7, 0, 80);
        x.set(7, 3, 1);
        due(127, x.guilty(7));
        due(128, x.now(4));
        // 80 by 3 is 26, in an hour 23: still enough; but a quarter of 26 is too little to make another one guilty.
        due(NONE, x.bath(7));
        due(7, x.bath(0));
        due(7, x.from(0, 0));
        due(20, x.on(0, 0, 1));
        due(1, x.count(2));
        due(40, x.count(3));
        due(127, x.jury(7, 7));
        due(71 + 7 * 20, x.hours(1));
        // 71 by 5 by 17 is 20: the farthest place is no better than the first.
        due(0, x.seat(7));
        x.did(7, 0, 67);
        due(47, x.seat(7));
        x.did(7, 0, 71);
        due(71 + 7 * 20, x.now(3));
    }

    private static void status() {
        begin(42);
        NoseJury x = hallOf(0, 0);
        x.image();
        x.of(9, 9);
        x.as(0, 1);
        x.deed(0, 0);
        x.from(0, 0);
        x.convicts(1, 0);
        x.lays(0);
        x.sheet(0, 8, -1);
        for (int i = 0; i < 7; i++) {
            x.person(0, 0);
        }
        x.person(0, 0);
        x.person(0, 0);
        int[] each = {2, 2, 1, 1, 1, 1, 1};
        for (int i = 0; i < 7; i++) {
            due(each[i], x.status(i));
        }
        due(9, x.status(-1));
        due(BEYOND, x.status(7));
        due(BEYOND, x.status(-2));
        due(4, x.status(0));
        due(11, x.status(-1));
        x.undo();
        x.wipe();
        x.hall();
        due(11, x.status(-1));
    }
}
