/** The edges of promises 32 to 37: sheets. */
public final class EdgesOfSheets {
    private static final int BEYOND = Edge.BEYOND;
    private static final int KIND = Edge.KIND;
    private static final int MISSING = Edge.MISSING;
    private static final int SIZE = Edge.SIZE;
    private static final int LOW = Edge.LOW;
    private static final int HIGH = Edge.HIGH;

    private static void due(long want, long got) {
        Edge.due(want, got);
    }

    public static void main(String[] args) {
        sheet();
        sheetMissing();
        sheetFindings();
        write();
        writeLowestBits();
        copy();
        copyAsTheyAllWere();
        copyFindings();
        lays();
        laysLeavesOut();
        book();
        bookOnHours();
        read();
        readJustSo();
        Edge.end();
    }

    private static void sheet() {
        Edge.sentence("A sheet has n numbers, all 0, of 8, 16 or 64 bits; bits 0: it is MISSING: n (0 if it is MISSING).");
        for (int bits : new int[] {8, 16, 64}) {
            for (int n : new int[] {0, 1, 39, 40}) {
                for (int s = 0; s < 4; s += 3) {
                    NoseJury x = new NoseJury();
                    due(n, x.sheet(s, bits, n));
                    for (int i = 0; i < n; i++) {
                        due(0, x.write(s, i, 1));
                    }
                    due(BEYOND, x.write(s, n, 1));
                    due(MISSING, x.write(s == 0 ? 1 : 2, 0, 1));
                }
            }
        }
        // A sheet that is made again has nothing of what was there: neither what is left nor what comes back.
        NoseJury x = new NoseJury();
        x.sheet(1, 16, 4);
        for (int i = 0; i < 4; i++) {
            x.write(1, i, 100 + i);
        }
        due(2, x.sheet(1, 16, 2));
        due(4, x.sheet(1, 16, 4));
        for (int i = 0; i < 4; i++) {
            due(0, x.write(1, i, 100 + i));
        }
        due(4, x.sheet(1, 64, 4));
        for (int i = 0; i < 4; i++) {
            due(0, x.write(1, i, 100 + i));
        }
        due(0, x.sheet(1, 0, 0));
        due(4, x.sheet(1, 64, 4));
        for (int i = 0; i < 4; i++) {
            due(0, x.write(1, i, 100 + i));
        }
    }

    private static void sheetMissing() {
        Edge.sentence("bits 0: it is MISSING: n (0 if it is MISSING)");
        for (int n : new int[] {0, 1, 40}) {
            NoseJury x = Edge.some();
            due(0, x.sheet(0, 0, n));
            due(MISSING, x.write(0, 0, 1));
            // One that is MISSING already may be so again.
            due(0, x.sheet(3, 0, n));
            due(MISSING, x.write(3, 0, 1));
            due(1000, x.write(1, 0, 1));
        }
        // A sheet of no numbers is not MISSING.
        NoseJury y = new NoseJury();
        due(0, y.sheet(2, 8, 0));
        due(0, y.lays(2));
        due(BEYOND, y.write(2, 0, 0));
    }

    private static void sheetFindings() {
        Edge.sentence("BEYOND: no such sheet, other bits. SIZE: n is below 0 (also with bits 0). "
            + "BEYOND: n is above 40 (also with bits 0).");
        for (int bits : new int[] {0, 8, 16, 64}) {
            Edge.refused(SIZE, Edge::some, (x, v) -> x.sheet(0, bits, v), -1, -41, LOW);
            Edge.refused(BEYOND, Edge::some, (x, v) -> x.sheet(0, bits, v), 41, 42, HIGH);
            Edge.refused(BEYOND, Edge::some, (x, v) -> x.sheet(v, bits, 1), -1, 4, LOW, HIGH);
            Edge.refused(BEYOND, Edge::some, (x, v) -> x.sheet(v, bits, -1), -1, 4);
            Edge.refused(SIZE, NoseJury::new, (x, v) -> x.sheet(3, bits, v), -1);
        }
        int[] otherBits = {-64, -16, -8, -1, 1, 4, 7, 9, 15, 17, 24, 32, 63, 65, 128, LOW, HIGH};
        Edge.refused(BEYOND, Edge::some, (x, v) -> x.sheet(0, v, 1), otherBits);
        Edge.refused(BEYOND, Edge::some, (x, v) -> x.sheet(0, v, -1), otherBits);
        Edge.refused(BEYOND, Edge::some, (x, v) -> x.sheet(3, v, 0), otherBits);
    }

    private static void write() {
        Edge.sentence("Number i of a sheet becomes v (its lowest bits): what it was. BEYOND: no such sheet. MISSING. "
            + "BEYOND: no such number.");
        Edge.refused(BEYOND, Edge::some, (x, v) -> x.write(v, 0, 1), -1, 4, LOW, HIGH);
        Edge.refused(BEYOND, NoseJury::new, (x, v) -> x.write(v, 0, 1), -1, 4);
        Edge.refused(MISSING, Edge::some, (x, v) -> x.write(3, v, 1), 0, -1, 40, LOW, HIGH);
        Edge.refused(BEYOND, Edge::some, (x, v) -> x.write(0, v, 1), -1, 3, 40, LOW, HIGH);
        Edge.refused(BEYOND, Edge::some, (x, v) -> x.write(1, v, 1), -1, 4);
        Edge.refused(BEYOND, Edge::some, (x, v) -> x.write(2, v, 1), -1, 2);
        Edge.refused(BEYOND, Edge::full, (x, v) -> x.write(3, v, 1), -1, 40);
        NoseJury x = Edge.some();
        due(5, x.write(0, 0, 6));
        due(19, x.write(0, 2, 7));
        due(6, x.write(0, 0, 0));
        due(7, x.write(0, 2, 0));
        due(12, x.write(0, 1, 0));
        due(40, Edge.full().write(3, 39, 0));
        due(0, x.status(-1));
    }

    private static void writeLowestBits() {
        Edge.sentence("becomes v (its lowest bits)");
        long[] numbers = {
            0, 1, 127, 128, 129, 255, 256, 257, -1, -128, -129, -256, 32767, 32768, 65535, 65536, -32768, -32769,
            Integer.MAX_VALUE, Integer.MIN_VALUE, 1L << 32, Long.MAX_VALUE, Long.MIN_VALUE,
        };
        long[] eight = {
            0, 1, 127, -128, -127, -1, 0, 1, -1, -128, 127, 0, -1, 0, -1, 0, 0, -1,
            -1, 0, 0, -1, 0,
        };
        long[] sixteen = {
            0, 1, 127, 128, 129, 255, 256, 257, -1, -128, -129, -256, 32767, -32768, -1, 0, -32768, 32767,
            -1, 0, 0, -1, 0,
        };
        NoseJury x = new NoseJury();
        x.sheet(0, 8, 1);
        x.sheet(1, 16, 1);
        x.sheet(2, 64, 1);
        for (int k = 0; k < numbers.length; k++) {
            for (int s = 0; s < 3; s++) {
                x.write(s, 0, numbers[k]);
            }
            due(eight[k], x.write(0, 0, 0));
            due(sixteen[k], x.write(1, 0, 0));
            due(numbers[k], x.write(2, 0, 0));
        }
        due(0, x.status(-1));
    }

    /** Two sheets of 16 bits, with 5 and 3 numbers, and one of 8 bits. */
    private static NoseJury rows() {
        NoseJury x = Edge.hallOf(0, 0, 0);
        x.sheet(0, 16, 5);
        x.sheet(1, 16, 3);
        x.sheet(2, 8, 5);
        for (int i = 0; i < 5; i++) {
            x.write(0, i, 10 + i);
            x.write(1, i, 20 + i);
            x.write(2, i, 30 + i);
        }
        return x;
    }

    private static void rowIs(NoseJury x, int s, int... want) {
        for (int i = 0; i < want.length; i++) {
            due(want[i], x.write(s, i, want[i]));
        }
    }

    private static void copy() {
        Edge.sentence("n numbers of a sheet from one on come to another one from one on (as they all were): n.");
        NoseJury x = rows();
        due(3, x.copy(0, 0, 1, 0, 3));
        rowIs(x, 1, 10, 11, 12);
        rowIs(x, 0, 10, 11, 12, 13, 14);
        due(1, x.copy(0, 4, 1, 2, 1));
        rowIs(x, 1, 10, 11, 14);
        due(3, x.copy(1, 0, 0, 2, 3));
        rowIs(x, 0, 10, 11, 10, 11, 14);
        // None at all, also from the end on and of a sheet of none.
        Edge.onlyAsks(0, EdgesOfSheets::rows, y -> y.copy(0, 5, 1, 3, 0));
        Edge.onlyAsks(0, EdgesOfSheets::rows, y -> y.copy(0, 0, 1, 0, 0));
        NoseJury z = rows();
        z.sheet(3, 16, 0);
        due(0, z.copy(3, 0, 3, 0, 0));
        due(0, z.copy(3, 0, 0, 5, 0));
        due(BEYOND, z.copy(3, 0, 0, 0, 1));
        due(BEYOND, z.copy(3, 1, 0, 0, 0));
        // All of the longest, and numbers of 64 bits whole.
        NoseJury f = Edge.full();
        f.sheet(0, 64, 40);
        due(40, f.copy(3, 0, 0, 0, 40));
        due(1, f.write(0, 0, Long.MIN_VALUE));
        due(40, f.write(0, 39, Long.MAX_VALUE));
        due(40, f.copy(0, 0, 3, 0, 40));
        due(Long.MIN_VALUE, f.write(3, 0, 0));
        due(Long.MAX_VALUE, f.write(3, 39, 0));
    }

    private static void copyAsTheyAllWere() {
        Edge.sentence("(as they all were)");
        NoseJury x = rows();
        due(4, x.copy(0, 0, 0, 1, 4));
        rowIs(x, 0, 10, 10, 11, 12, 13);
        NoseJury y = rows();
        due(4, y.copy(0, 1, 0, 0, 4));
        rowIs(y, 0, 11, 12, 13, 14, 14);
        NoseJury z = rows();
        due(3, z.copy(0, 0, 0, 2, 3));
        rowIs(z, 0, 10, 11, 10, 11, 12);
        Edge.onlyAsks(5, EdgesOfSheets::rows, w -> w.copy(0, 0, 0, 0, 5));
    }

    private static void copyFindings() {
        Edge.sentence("BEYOND: no such sheet (either). MISSING: one is. KIND: they are not of as many bits. "
            + "BEYOND: one has not so many, or from, to or n is below 0.");
        Edge.Scene rows = EdgesOfSheets::rows;
        Edge.refused(BEYOND, rows, (x, v) -> x.copy(v, 0, 0, 0, 1), -1, 4, LOW, HIGH);
        Edge.refused(BEYOND, rows, (x, v) -> x.copy(0, 0, v, 0, 1), -1, 4, LOW, HIGH);
        Edge.refused(BEYOND, rows, (x, v) -> x.copy(3, 0, v, 0, 1), -1, 4);
        Edge.refused(BEYOND, rows, (x, v) -> x.copy(v, 0, 3, 0, 1), -1, 4);
        Edge.refused(MISSING, rows, x -> x.copy(3, 0, 0, 0, 1));
        Edge.refused(MISSING, rows, x -> x.copy(0, 0, 3, 0, 1));
        Edge.refused(MISSING, rows, x -> x.copy(3, 0, 3, 0, 0));
        Edge.refused(MISSING, rows, x -> x.copy(3, -1, 2, -1, -1));
        Edge.refused(KIND, rows, x -> x.copy(0, 0, 2, 0, 1));
        Edge.refused(KIND, rows, x -> x.copy(2, 0, 0, 0, 0));
        Edge.refused(KIND, rows, x -> x.copy(2, -1, 0, 99, -1));
        Edge.refused(BEYOND, rows, (x, v) -> x.copy(0, v, 1, 0, 1), -1, 5, LOW, HIGH);
        Edge.refused(BEYOND, rows, (x, v) -> x.copy(0, 0, 1, v, 1), -1, 3, LOW, HIGH);
        Edge.refused(BEYOND, rows, (x, v) -> x.copy(0, 0, 1, 0, v), -1, 4, LOW, HIGH);
        Edge.refused(BEYOND, rows, (x, v) -> x.copy(1, 0, 0, 0, v), -1, 4, 5, HIGH);
        Edge.refused(BEYOND, rows, (x, v) -> x.copy(0, v, 1, 0, 0), -1, 6, LOW, HIGH);
        Edge.refused(BEYOND, rows, (x, v) -> x.copy(0, 0, 1, v, 0), -1, 4, LOW, HIGH);
        Edge.refused(BEYOND, rows, (x, v) -> x.copy(0, v, 0, 0, 3), 3, HIGH - 2, HIGH);
        Edge.refused(BEYOND, rows, (x, v) -> x.copy(0, 0, 0, v, 3), 3, HIGH - 2, HIGH);
        // Sums that wrap around are still too many.
        Edge.refused(BEYOND, rows, x -> x.copy(0, HIGH, 1, HIGH, HIGH));
        Edge.refused(BEYOND, rows, x -> x.copy(0, 1, 1, 1, HIGH));
        Edge.refused(BEYOND, rows, x -> x.copy(0, HIGH, 1, 0, 2));
        Edge.refused(BEYOND, rows, x -> x.copy(0, LOW, 1, LOW, LOW));
        due(3, rows().copy(0, 2, 1, 0, 3));
        due(2, rows().copy(0, 2, 1, 1, 2));
    }

    private static void lays() {
        Edge.sentence("Numbers of a sheet become PLACES of PEOPLE 0, 1, ..");
        Edge.refused(BEYOND, Edge::some, (x, v) -> x.lays(v), -1, 4, LOW, HIGH);
        Edge.refused(BEYOND, NoseJury::new, (x, v) -> x.lays(v), -1, 4);
        Edge.refused(MISSING, Edge::some, x -> x.lays(3));
        Edge.refused(MISSING, NoseJury::new, x -> x.lays(0));
        Edge.comesToTheSame(Edge::some, x -> x.lays(0), x -> {
            x.set(0, 1, 5);
            x.set(1, 1, 12);
            return x.set(2, 1, 19);
        });
        due(3, Edge.some().lays(0));
        // Nobody is there, or no number: none came, which is no finding.
        NoseJury x = new NoseJury();
        x.sheet(0, 8, 40);
        due(0, x.lays(0));
        NoseJury y = Edge.some();
        y.sheet(0, 64, 0);
        due(0, y.lays(0));
        due(0, y.status(-1) + x.status(-1));
        // All of eight, with more numbers than there are people.
        NoseJury f = Edge.full();
        due(8, f.lays(3));
        for (int p = 0; p < 8; p++) {
            due(p + 1, f.of(p, 1));
        }
        // More people than numbers.
        f.sheet(3, 8, 7);
        due(7, f.lays(3));
        due(0, f.of(6, 1));
        due(8, f.of(7, 1));
    }

    private static void laysLeavesOut() {
        Edge.sentence("(those that aren't 0 to 47, or stand for none, are left out)");
        long[] numbers = {
            -1, 48, 1L << 32, (1L << 32) + 5, Long.MIN_VALUE, Long.MAX_VALUE, Integer.MIN_VALUE, 256 + 7, -1000000001L, 127,
        };
        for (long number : numbers) {
            NoseJury x = Edge.hallOf(0, 20, 21, 22);
            x.sheet(0, 64, 3);
            x.write(0, 0, 47);
            x.write(0, 1, number);
            x.write(0, 2, 0);
            due(2, x.lays(0));
            due(47, x.of(0, 1));
            due(21, x.of(1, 1));
            due(0, x.of(2, 1));
        }
        // As a number of 8 bits 256 and 7 is 7, and 200 is below 0.
        NoseJury y = Edge.hallOf(0, 20, 21);
        y.sheet(0, 8, 2);
        y.write(0, 0, 256 + 7);
        y.write(0, 1, 200);
        due(1, y.lays(0));
        due(7, y.of(0, 1));
        due(21, y.of(1, 1));
    }

    /** Two at one place; the second has 99 of deed 0. */
    private static NoseJury pair() {
        NoseJury x = Edge.hallOf(0, 0, 0);
        x.did(1, 0, 99);
        x.sheet(0, 8, 3);
        x.sheet(1, 16, 40);
        x.sheet(2, 64, 0);
        return x;
    }

    private static void book() {
        Edge.sentence("comes to a sheet, as many as it has numbers: how many. BEYOND: no such sheet. MISSING. "
            + "BEYOND: person, other (also one and the same), deed.");
        Edge.refused(BEYOND, Edge::some, (x, v) -> x.book(v, 3, 0, 0), -1, 4, LOW, HIGH);
        Edge.refused(MISSING, Edge::some, x -> x.book(3, 3, 0, 0));
        Edge.refused(MISSING, Edge::some, x -> x.book(3, -1, -1, -1));
        Edge.needsPersonOfSheets((x, p) -> x.book(0, p, 0, 0));
        Edge.needsPersonOfSheets((x, p) -> x.book(0, 0, p, 0));
        for (int p = 0; p < Edge.SOME; p++) {
            Edge.refused(BEYOND, Edge::some, (x, v) -> x.book(0, v, v, 0), p);
        }
        Edge.refused(BEYOND, Edge::some, (x, v) -> x.book(0, 3, 0, v), -1, 6, LOW, HIGH);
        Edge.onlyAsks(0, EdgesOfSheets::pair, x -> x.book(2, 0, 1, 0));
        // It is the sheet alone that changes.
        Edge.comesToTheSame(EdgesOfSheets::pair, x -> x.book(0, 0, 1, 0), x -> {
            x.write(0, 0, 99);
            x.write(0, 1, 89);
            return x.write(0, 2, 80);
        });
        NoseJury x = pair();
        due(3, x.book(0, 0, 1, 0));
        due(40, x.book(1, 0, 1, 0));
        due(99, x.write(1, 0, 0));
        due(1, x.write(1, 26, 0));
        due(0, x.write(1, 27, 0));
        due(0, x.write(1, 39, 0));
        // Of what is too much for 8 bits the lowest are there: 178, 160, 144 less 256.
        x.set(0, 2, 9);
        due(3, x.book(0, 0, 1, 0));
        due(178 - 256, x.write(0, 0, 0));
        due(160 - 256, x.write(0, 1, 0));
        due(144 - 256, x.write(0, 2, 0));
    }

    private static void bookOnHours() {
        Edge.sentence("what one SMELLS of a DEED of another one ON 0, 1, 2, .. HOURS");
        // As it is told, so it comes.
        NoseJury x = Edge.some();
        x.sheet(1, 16, 6);
        x.book(1, 5, 4, 1);
        NoseJury y = Edge.some();
        for (int i = 0; i < 6; i++) {
            due(y.smells(5, 4, 1), x.write(1, i, 0));
            y.hours(1);
        }
        // Behind the last hour of all a perfumer goes on with its hours: even is 10000.
        NoseJury z = Edge.late();
        z.hours(9);
        z.set(1, 1, 8);
        z.did(0, 0, 99);
        z.sheet(0, 64, 3);
        due(3, z.book(0, 1, 0, 0));
        due(89 * 5 / 6, z.write(0, 0, 0));
        due(39 * 5 / 6, z.write(0, 1, 0));
        due(70 * 5 / 6, z.write(0, 2, 0));
        due(0, z.status(-1));
    }

    private static void read() {
        Edge.sentence("with how many SCENTS of it (0 to 99, now) it is just so. BEYOND: no such sheet. MISSING. BEYOND as with book().");
        Edge.refused(BEYOND, Edge::some, (x, v) -> x.read(v, 3, 0, 0), -1, 4, LOW, HIGH);
        Edge.refused(MISSING, Edge::some, x -> x.read(3, 3, 0, 0));
        Edge.refused(MISSING, Edge::some, x -> x.read(3, -1, -1, -1));
        Edge.needsPersonOfSheets((x, p) -> x.read(0, p, 0, 0));
        Edge.needsPersonOfSheets((x, p) -> x.read(0, 0, p, 0));
        for (int p = 0; p < Edge.SOME; p++) {
            Edge.refused(BEYOND, Edge::some, (x, v) -> x.read(0, v, v, 0), p);
        }
        Edge.refused(BEYOND, Edge::some, (x, v) -> x.read(0, 3, 0, v), -1, 6, LOW, HIGH);
        // A sheet of no numbers is so with all.
        Edge.onlyAsks(100, EdgesOfSheets::pair, x -> x.read(2, 0, 1, 0));
        Edge.onlyAsks(1, EdgesOfSheets::pair, x -> x.read(0, 0, 1, 5));
        Edge.changesNothing(Edge::some, x -> x.read(0, 3, 0, 0));
    }

    private static int readOf(int nose, int bits, long... numbers) {
        NoseJury x = Edge.hallOf(0, 0, 0);
        x.set(0, 2, nose);
        x.did(1, 0, 50);
        x.sheet(0, bits, numbers.length);
        for (int i = 0; i < numbers.length; i++) {
            x.write(0, i, numbers[i]);
        }
        int many = x.read(0, 0, 1, 0);
        due(50, x.scent(1, 0, 0));
        return many;
    }

    private static void readJustSo() {
        Edge.sentence("with how many SCENTS of it (0 to 99, now) it is just so");
        // With a nose of 5 a scent smells as itself, with one of 1 as a fifth of it, with 0 as nothing.
        due(0, readOf(5, 64, -1));
        due(1, readOf(5, 64, 0));
        due(1, readOf(5, 64, 99));
        due(0, readOf(5, 64, 100));
        due(0, readOf(5, 64, (1L << 32) + 50));
        due(100, readOf(0, 64, 0));
        due(0, readOf(0, 64, 1));
        due(5, readOf(1, 64, 0));
        due(5, readOf(1, 64, 19));
        due(0, readOf(1, 64, 20));
        // The first, the second, the last of them decides.
        due(1, readOf(5, 64, 50, 44, 39));
        due(0, readOf(5, 64, 50, 44, 38));
        due(0, readOf(5, 64, 50, 45, 39));
        due(0, readOf(5, 64, 51, 44, 39));
        // 10 and 9 are both 8 in an hour, 0 and 1 both 0.
        due(1, readOf(5, 64, 10, 8));
        due(1, readOf(5, 64, 9, 8));
        due(5, readOf(1, 64, 0, 0));
        // Of 5 to 9, which smell as 1, all but the least do so in an hour.
        due(4, readOf(1, 64, 1, 1));
        due(1, readOf(1, 64, 1, 0));
        // A number of 8 bits is what it is there: 178 is below 0, and nothing smells so.
        due(0, readOf(9, 8, 178));
        due(1, readOf(9, 16, 178));
        due(1, readOf(9, 8, 126));
        // What book() has told of the scent of now is so with it at least.
        NoseJury x = Edge.some();
        x.sheet(1, 16, 4);
        x.book(1, 3, 0, 0);
        due(1, x.read(1, 3, 0, 0));
        x.write(1, 3, 0);
        due(0, x.read(1, 3, 0, 0));
        // What clings is the same for many scents: of 99 it is 24, whoever has less than 28.
        NoseJury y = Edge.hallOf(0, 0, 1, 1);
        y.did(2, 0, 99);
        y.set(0, 2, 9);
        y.sheet(0, 16, 2);
        y.write(0, 0, 27 * 9 / 6);
        y.write(0, 1, 24 * 9 / 6);
        due(1, y.read(0, 0, 1, 0));
        y.set(0, 2, 0);
        y.write(0, 0, 0);
        y.write(0, 1, 0);
        due(100, y.read(0, 0, 1, 0));
    }
}
