/** The edges of promises 29 to 31: the tape, and the text of a hall. */
public final class EdgesOfText {
    private static final int BEYOND = Edge.BEYOND;
    private static final int FULL = Edge.FULL;
    private static final int LOW = Edge.LOW;
    private static final int HIGH = Edge.HIGH;

    private static void due(long want, long got) {
        Edge.due(want, got);
    }

    public static void main(String[] args) {
        feed();
        feedFull();
        wipe();
        tokens();
        bytesThatBeginNoToken();
        numbers();
        blanks();
        signs();
        itemsOfPeople();
        itemsOfPeopleInOrder();
        itemsOfWind();
        itemsOfDue();
        otherWords();
        endsTooEarly();
        theNinth();
        longTexts();
        comesToWhatThereIs();
        faultsChangeNothing();
        Edge.end();
    }

    /** A text that is read, on an empty hall. */
    private static void reads(int items, String text) {
        NoseJury x = new NoseJury();
        tellIf(items, Edge.told(x, text), text);
        due(0, x.count(1));
        due(0, x.status(-1));
    }

    /** A text with a fault at a place: the tape is empty then, and there is no finding. */
    private static void faults(int place, String text) {
        NoseJury x = new NoseJury();
        tellIf(-1 - place, Edge.told(x, text), text);
        due(0, x.count(0));
        due(0, x.count(1));
        due(0, x.now(1));
        due(20, x.now(2));
        due(0, x.status(-1));
    }

    private static void tellIf(int want, int got, String text) {
        if (want != got) {
            System.out.println("the text is: " + text);
        }
        due(want, got);
    }

    private static void feed() {
        Edge.sentence("THE TAPE gets the n lowest bytes of a number behind it, the highest of these first (n 1 to 4): "
            + "how many it has. BEYOND: n.");
        Edge.refused(BEYOND, Edge::some, (x, v) -> x.feed(0x3b3b3b3b, v), 0, 5, -1, LOW, HIGH);
        Edge.refused(BEYOND, NoseJury::new, (x, v) -> x.feed(0x3b3b3b3b, v), 0, 5, -1);
        Edge.refused(BEYOND, Edge::full, (x, v) -> x.feed(0x3b3b3b3b, v), 0, 5, -1);
        for (int n = 1; n <= 4; n++) {
            due(n, new NoseJury().feed(0, n));
            due(n, new NoseJury().feed(-1, n));
            due(n, new NoseJury().feed(LOW, n));
            due(12 + n, Edge.some().feed(HIGH, n));
        }
        // "due9" at once, by 1 and 3, by 2 and 2, by 3 and 1; what stands above is not taken.
        int[][] acts = {
            {0x64756539, 4}, {0x58585864, 1, 0x58756539, 3}, {0x58586475, 2, 0x58586539, 2}, {0x58647565, 3, 0xffffff39, 1},
        };
        for (int[] act : acts) {
            NoseJury x = new NoseJury();
            for (int i = 0; i < act.length; i += 2) {
                x.feed(act[i], act[i + 1]);
            }
            due(4, x.count(1));
            due(1, x.hall());
            due(9, x.now(2));
        }
        // A byte of 0 is a byte: one that begins no token.
        NoseJury y = new NoseJury();
        y.feed(0x64756539, 4);
        due(5, y.feed(0, 1));
        due(-1 - 4, y.hall());
        // The highest byte of a number below 0 is one, too.
        NoseJury z = new NoseJury();
        z.feed(0xe4756539, 4);
        due(-1, z.hall());
    }

    private static void feedFull() {
        Edge.sentence("THE TAPE (bytes, at most 120)");
        Edge.refused(FULL, Edge::full, (x, v) -> x.feed(0x3b3b3b3b, v), 1, 2, 3, 4);
        for (int had = 116; had <= 119; had++) {
            int room = 120 - had;
            for (int n = 1; n <= 4; n++) {
                NoseJury x = new NoseJury();
                feedBlanks(x, had);
                due(n > room ? FULL : had + n, x.feed(0x20202020, n));
                due(n > room ? had : had + n, x.count(1));
                // Nothing of what was too long has come, and the room is still there.
                due(n > room ? 120 : FULL, x.feed(0x20202020, n > room ? room : room - n + 1));
            }
        }
        Edge.refused(FULL, () -> {
            NoseJury x = new NoseJury();
            feedBlanks(x, 111);
            Edge.feedText(x, "wind 1");
            return x;
        }, x -> x.feed(0x3b202020, 4));
        // There is room again behind hall() and wipe().
        NoseJury y = Edge.full();
        y.wipe();
        due(1, y.feed(0, 1));
        NoseJury z = Edge.full();
        due(19, z.hall());
        due(4, z.feed(0, 4));
    }

    private static void feedBlanks(NoseJury x, int n) {
        Edge.feedText(x, " ".repeat(n));
    }

    private static void wipe() {
        Edge.sentence("THE TAPE is empty: how many it had.");
        due(0, new NoseJury().wipe());
        due(12, Edge.some().wipe());
        due(120, Edge.full().wipe());
        NoseJury x = Edge.some();
        x.wipe();
        due(0, x.count(1));
        due(0, x.wipe());
        due(-1, x.hall());
        due(0, x.status(-1));
        // It is the tape alone that is wiped: what was on it may as well be fed again.
        Edge.comesToTheSame(Edge::some, y -> {
            y.wipe();
            return Edge.feedText(y, "wind 3;due 9");
        }, y -> 0);
    }

    private static void tokens() {
        Edge.sentence("TOKENS, each as long as can be: WORDS (letters a to z), NUMBERS (digits, 999 at most), SIGN ;");
        reads(2, "wind2;due3");
        reads(1, "person at3nose4cold did5 6");
        reads(1, "cook at 3 nose4did5 6");
        faults(0, "winda 2");
        faults(0, "windz 2");
        faults(0, "awind 2");
        faults(0, "zwind 2");
        faults(4, "dog ata 2");
        faults(4, "dog atz 2");
        faults(4, "dog it 2");
        faults(4, "dog ab 2");
        faults(9, "dog at 2 rose 3");
        faults(9, "dog at 2 bold");
        faults(9, "dog at 2 dip 3 4");
        faults(0, "win d 2");
        faults(0, "personat 3");
        faults(7, "person att 3");
        faults(12, "person at 3 colddid 5 6");
        faults(12, "person at 3 nosecold");
        // Two digits behind one another are one number, which is none of a deed.
        faults(16, "person at 3 did 56");
        faults(16, "person at 3 did 56 7");
        reads(1, "person at 3 did 5 67");
        faults(18, "person at 3 did 5 678");
        faults(0, "wnd 2");
        faults(0, "a");
        faults(0, "z");
    }

    private static void bytesThatBeginNoToken() {
        Edge.sentence("a byte that begins no TOKEN");
        // Beside a and z, 0 and 9, the sign and the blank, and the ends of all bytes.
        int[] strange = {0, 1, 9, 10, 13, 31, 33, '/', ':', '<', '@', 'A', 'W', 'Z', '[', '`', '{', 127, 128, 160, 255};
        for (int b : strange) {
            String c = String.valueOf((char) b);
            faults(0, c);
            faults(0, c + "wind 2");
            faults(2, "  " + c + "wind 2");
            faults(3, "due" + c + "2");
            faults(4, "wind" + c + "2");
            faults(5, "wind " + c);
            faults(6, "wind 2" + c);
            faults(7, "wind 2 " + c);
            faults(7, "wind 2;" + c);
            faults(11, "person at 3" + c + "cold");
        }
    }

    private static void numbers() {
        Edge.sentence("NUMBERS (digits, 999 at most)");
        String[] none = {
            "100", "999", "1000", "1001", "9999", "2147483648", "4294967297", "4294967299", "18446744073709551617",
            "100000000000000000000000000000000000000001",
        };
        for (String number : none) {
            faults(4, "due " + number);
            faults(5, "wind " + number);
            faults(10, "person at " + number);
            faults(16, "hound at 3 nose " + number);
            faults(15, "hound at 3 did " + number + " 4");
            faults(17, "hound at 3 did 5 " + number);
            faults(7, "wind 2;" + number);
        }
        // A number that stands where none can is a fault at its first digit.
        faults(0, "5");
        faults(7, "wind 2 2");
        faults(7, "person 3");
        faults(12, "person at 3 3");
        faults(0, "0wind 2");
        // Zeros ahead leave it the number that it is.
        reads(1, "due 007");
        reads(1, "wind 00000000000004");
        faults(5, "wind 00000000000005");
        faults(4, "due 000");
    }

    private static void blanks() {
        Edge.sentence("blanks may stand between");
        reads(1, "   wind   2   ");
        reads(2, " wind 2 ; due 3 ");
        reads(2, "wind2;due3");
        reads(1, "   hound   at   3   nose   4   cold   did   5   6   ");
        // Between tokens they stand, not in them.
        faults(0, "w ind 2");
        faults(4, "due 0 7");
        faults(6, "due 1 7");
        faults(9, "dog at 7 co ld");
        faults(12, "dog at 7    7");
    }

    private static void signs() {
        Edge.sentence("TEXT: ITEM { ; ITEM }.");
        reads(1, "wind 2");
        reads(2, "wind 2;wind 3");
        reads(3, "wind 2;due 3;wind 3");
        faults(0, ";");
        faults(0, ";wind 2");
        faults(1, " ;");
        faults(7, "wind 2;");
        faults(8, "wind 2; ");
        faults(7, "wind 2;;wind 3");
        faults(8, "wind 2; ; wind 3");
        faults(7, "wind 2 wind 3");
        faults(7, "wind 2 person at 3");
        faults(12, "person at 3 wind 2");
        faults(6, "wind 2,wind 3");
        faults(5, "wind ;2");
        faults(6, "person;at 3");
        faults(10, "person at ;");
        faults(16, "person at 3 nose;");
        faults(17, "person at 3 did 5; ");
    }

    private static void itemsOfPeople() {
        Edge.sentence("the name of a KIND (person cook barrister dog perfumer hound), at, a NUMBER (a PLACE)");
        String[] names = {"person", "cook", "barrister", "dog", "perfumer", "hound"};
        for (int kind = 0; kind < names.length; kind++) {
            NoseJury x = new NoseJury();
            due(1, Edge.told(x, names[kind] + " at 47 nose 9 did 5 99"));
            due(1, Edge.told(x, names[kind] + " at 0 nose 0 cold did 0 0"));
            due(2, Edge.told(x, names[kind] + " at 7;" + names[kind] + " at 8 cold"));
            int[][] want = {{47, 9, 0, 99}, {0, 0, 1, 0}, {7, 5, 0, 0}, {8, 5, 1, 0}};
            due(want.length, x.count(0));
            for (int p = 0; p < want.length; p++) {
                due(kind, x.of(p, 0));
                for (int what = 1; what <= 4; what++) {
                    due(want[p][what - 1], x.of(p, what));
                }
            }
            due(99, x.scent(0, 5, 0));
            int at = names[kind].length() + 4;
            reads(1, names[kind] + " at 47");
            faults(at, names[kind] + " at 48");
            faults(at, names[kind] + " at x");
            faults(at - 1, names[kind] + " at");
            faults(at - 3, names[kind] + " on 4");
            faults(at - 3, names[kind] + " 4");
            faults(0, names[kind].substring(1) + " at 4");
            faults(0, names[kind] + "s at 4");
        }
    }

    private static void itemsOfPeopleInOrder() {
        Edge.sentence("perhaps nose and a NUMBER (0 to 9), perhaps cold, perhaps did and a NUMBER (a DEED) and a NUMBER "
            + "(its SCENT, 0 to 99)");
        reads(1, "dog at 7 nose 0");
        reads(1, "dog at 7 nose 9");
        faults(14, "dog at 7 nose 10");
        faults(14, "dog at 7 nose x");
        faults(14, "dog at 7 nose cold");
        reads(1, "dog at 7 cold");
        faults(14, "dog at 7 cold 1");
        faults(14, "dog at 7 cold cold");
        faults(14, "dog at 7 cold nose 1");
        reads(1, "dog at 7 nose 1 cold");
        faults(16, "dog at 7 nose 1 nose 1");
        reads(1, "dog at 7 nose 1 did 5 6");
        reads(1, "dog at 7 cold did 5 6");
        reads(1, "dog at 7 did 0 0");
        reads(1, "dog at 7 did 5 99");
        faults(13, "dog at 7 did 6 99");
        faults(15, "dog at 7 did 5 100");
        faults(15, "dog at 7 did 5 x");
        faults(13, "dog at 7 did x 9");
        faults(17, "dog at 7 did 5 9 9");
        faults(17, "dog at 7 did 5 9 did 4 9");
        faults(17, "dog at 7 did 5 9 cold");
        faults(17, "dog at 7 did 5 9 nose 1");
        faults(9, "dog at 7 at 8");
    }

    private static void itemsOfWind() {
        Edge.sentence("wind and a NUMBER (0 to 4)");
        for (int w = 0; w <= 4; w++) {
            NoseJury x = new NoseJury();
            x.law(0, 1);
            due(1, Edge.told(x, "wind " + w));
            due(w, x.now(1));
        }
        faults(5, "wind 5");
        faults(5, "wind 10");
        faults(5, "wind up");
        faults(5, "wind -1");
        faults(5, "wind wind 1");
    }

    private static void itemsOfDue() {
        Edge.sentence("due and a NUMBER (1 to 99)");
        for (int d : new int[] {1, 2, 98, 99}) {
            NoseJury x = new NoseJury();
            due(1, Edge.told(x, "due " + d));
            due(d, x.now(2));
        }
        faults(4, "due 0");
        faults(4, "due 100");
        faults(4, "due x");
        faults(4, "due ;");
        faults(4, "due due 1");
        faults(6, "due 1 1");
    }

    private static void otherWords() {
        Edge.sentence("another WORD");
        String[] words = {
            "at", "nose", "cold", "did", "judge", "x", "windy", "dues", "perso", "houndd", "dogcook", "lind", "wine", "sue",
            "dub", "bog", "dot", "kook", "cool", "xerson", "persom", "carrister", "zerfumer", "sound", "houne",
        };
        for (String word : words) {
            faults(0, word);
            faults(0, word + " 1");
            faults(7, "wind 2;" + word + " at 3");
            faults(9, "dog at 1 " + (word.equals("nose") || word.equals("cold") || word.equals("did") ? "x" : word));
        }
    }

    private static void endsTooEarly() {
        Edge.sentence("or how many bytes there are if it ends too early");
        String[] texts = {
            "", " ", "     ", "wind", "wind ", "wind    ", "due", "due  ", "dog", "dog ", "dog at", "dog at ", "wind 2;",
            "wind 2;  ", "dog at 7 nose", "dog at 7 nose ", "dog at 7 did", "dog at 7 did ", "dog at 7 did 5",
            "dog at 7 did 5  ", "dog at 7 cold did 5", "dog at 7;", "dog at 7 ; hound", "wind 2;due",
        };
        for (String text : texts) {
            faults(text.length(), text);
        }
        // A word that isn't whole is another word, not an end.
        faults(0, "win");
        faults(4, "dog a");
        faults(9, "dog at 7 col");
    }

    private static NoseJury seven() {
        return Edge.hallOf(0, 0, 1, 2, 3, 4, 5, 6);
    }

    private static NoseJury eight() {
        return Edge.hallOf(0, 0, 1, 2, 3, 4, 5, 6, 7);
    }

    private static void theNinth() {
        Edge.sentence("the name of a KIND for a 9th: its own");
        NoseJury x = seven();
        due(-1 - 9, Edge.told(x, "dog at 1;dog at 2"));
        due(7, x.count(0));
        due(1, Edge.told(x, "dog at 1"));
        due(8, x.count(0));
        // Though what is behind it is a fault, too, or nothing.
        for (String text : new String[] {"dog at 1", "dog at 99", "dog", "dog dog", "hound;", "cook at 1 nose 77"}) {
            due(-1, Edge.told(eight(), text));
            due(-1 - 3, Edge.told(eight(), "   " + text));
            due(-1 - 7, Edge.told(eight(), "wind 2;" + text));
        }
        // Of what is no name the word itself is the fault, and a wind and what is due may still come.
        due(-1 - 7, Edge.told(eight(), "wind 2;x"));
        due(2, Edge.told(eight(), "wind 2;due 3"));
        // All of eight in one text, and the ninth behind them.
        String eightItems = "dog at 1;dog at 2;dog at 3;dog at 4;dog at 5;dog at 6;dog at 7;dog at 8";
        reads(8, eightItems);
        faults(72, eightItems + ";cook at 9");
        reads(9, eightItems + ";wind 2");
    }

    private static void longTexts() {
        Edge.sentence("THE TAPE (bytes, at most 120)");
        // The most items, with the last digit as the last byte; and the fault at the last byte, or behind it.
        reads(19, "due 9;".repeat(10) + "wind 1;".repeat(7) + "wind2;wind3");
        reads(24, "due1;".repeat(23) + "due 1");
        faults(119, " ".repeat(119) + "x");
        faults(119, "due1;".repeat(23) + "due ;");
        faults(120, "due1;".repeat(24));
        faults(120, " ".repeat(120));
        faults(0, "a".repeat(120));
        faults(0, "1".repeat(120));
        faults(4, "due " + "1".repeat(116));
        faults(0, ";".repeat(120));
        reads(1, "due " + "0".repeat(115) + "9");
    }

    private static void comesToWhatThereIs() {
        Edge.sentence("whose ITEMS come to what there is, and empty then: how many ITEMS");
        Edge.comesToTheSame(EdgesOfText::someWithoutTape, x -> Edge.told(x, "wind 4;cook at 40 nose 3 cold did 4 44;due 8;dog at 9"), x -> {
            x.law(0, 4);
            x.person(1, 40);
            x.set(6, 2, 3);
            x.set(6, 3, 1);
            x.did(6, 4, 44);
            x.law(1, 8);
            return x.person(3, 9);
        });
        // Items come one behind the other: the last of two that say the same thing stays.
        NoseJury y = new NoseJury();
        due(3, Edge.told(y, "wind 4;wind 0;wind 3"));
        due(3, y.now(1));
        // The tape is read but once.
        due(-1, y.hall());
        due(0, y.count(1));
        due(3, y.now(1));
        // The hour, the sheets and the image are as they were; the text of before is what hall() reads.
        NoseJury z = Edge.some();
        due(2, z.hall());
        due(3, z.now(1));
        due(9, z.now(2));
        due(1, z.now(0));
        due(6, z.count(0));
    }

    private static NoseJury someWithoutTape() {
        NoseJury x = Edge.some();
        x.wipe();
        return x;
    }

    private static void faultsChangeNothing() {
        Edge.sentence("With a FAULT: -1 less its place (nothing changes but that THE TAPE is empty; no finding).");
        String[] texts = {
            "", "x", "wind 1;due 2;hound at 4 did 4 4;x", "wind 1;due 2;hound at 4 did 4 4;", "wind 1;due 100",
            "hound at 4 nose 9 cold did 5 100", "hound at 1;hound at 2;hound at 3", "due 2;wind 5", "wind 0 due 1",
        };
        int[] places = {0, 0, 32, 32, 11, 29, 22, 11, 7};
        for (int k = 0; k < texts.length; k++) {
            String text = texts[k];
            Edge.onlyAsks(-1 - places[k], EdgesOfText::someWithoutTape, x -> Edge.told(x, text));
        }
        // What was on the tape ahead of it is gone with it.
        NoseJury x = Edge.some();
        due(-1 - 12, Edge.told(x, ",wind 1"));
        due(0, x.count(1));
        due(2, x.now(1));
        due(15, x.now(2));
        due(1, Edge.told(x, "wind 1"));
    }
}
