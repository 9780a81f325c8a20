import java.util.ArrayList;
import java.util.List;
import java.util.stream.Collectors;

/**
 * What the tests of edges share. An act that must change nothing is tried on one of two objects made by the same
 * calls; then all that the class tells is asked of both, and must be the same.
 * An object is promised for 512 calls alone, so scenes are small and each act has two objects of its own.
 */
final class Edge {
    static final int BEYOND = -1000000001;
    static final int FULL = -1000000002;
    static final int KIND = -1000000003;
    static final int NONE = -1000000004;
    static final int STATE = -1000000005;
    static final int MISSING = -1000000006;
    static final int SIZE = -1000000007;

    static final int LOW = Integer.MIN_VALUE;
    static final int HIGH = Integer.MAX_VALUE;

    /** How many are in the hall of some(), of full(). */
    static final int SOME = 6;
    static final int ALL = 8;

    interface Scene {
        NoseJury made();
    }

    interface Act {
        long on(NoseJury x);
    }

    /** An act with one argument that is tried at several values. */
    interface ActWith {
        long on(NoseJury x, int v);
    }

    private static String sentence = "";
    private static int asked = 0;
    private static int wrong = 0;

    private Edge() {
    }

    /** Names the words of the document that the questions behind it are about. */
    static void sentence(String words) {
        sentence = words;
    }

    static void due(long want, long got) {
        asked++;
        if (want != got) {
            tellWrong("answered " + got + ", due is " + want);
        }
    }

    static void end() {
        System.out.println(wrong == 0 ? asked + " answers are as due" : wrong + " of " + asked + " answers are not as due");
        if (wrong != 0 || asked == 0) {
            System.exit(1);
        }
    }

    /** The act answers the finding and changes nothing but status(), which counts it once. */
    static void refused(int finding, Scene scene, Act act) {
        NoseJury x = scene.made();
        NoseJury y = scene.made();
        due(finding, act.on(x));
        for (int which = -1; which <= 6; which++) {
            int more = which == -1 || which == BEYOND - finding ? 1 : 0;
            due(y.status(which) + more, x.status(which));
        }
        sameInAll(x, y);
    }

    static void refused(int finding, Scene scene, ActWith act, int... values) {
        for (int v : values) {
            refused(finding, scene, x -> act.on(x, v));
        }
    }

    /** The act answers no finding, and nothing has changed by it, status() neither. */
    static void onlyAsks(long want, Scene scene, Act act) {
        NoseJury x = scene.made();
        NoseJury y = scene.made();
        due(want, act.on(x));
        due(y.status(-1), x.status(-1));
        sameInAll(x, y);
    }

    /** As onlyAsks, where what is answered is asked elsewhere. */
    static void changesNothing(Scene scene, Act act) {
        onlyAsks(act.on(scene.made()), scene, act);
    }

    /** The first act comes to the same as the second one, whatever they answer. */
    static void comesToTheSame(Scene scene, Act act, Act other) {
        NoseJury x = scene.made();
        NoseJury y = scene.made();
        act.on(x);
        other.on(y);
        due(y.status(-1), x.status(-1));
        sameInAll(x, y);
    }

    /** An act about one that there must be: all below and above those that there are, and one where there are none. */
    static void needsPerson(ActWith act) {
        refused(BEYOND, Edge::some, act, -1, SOME, SOME + 1, 63, LOW, HIGH);
        refused(BEYOND, Edge::full, act, -1, ALL);
        refused(BEYOND, NoseJury::new, act, 0);
    }

    /** As needsPerson, for acts that ask for sheet 0 ahead of it, which is MISSING in the other scenes. */
    static void needsPersonOfSheets(ActWith act) {
        refused(BEYOND, Edge::some, act, -1, SOME, SOME + 1, 63, LOW, HIGH);
        refused(MISSING, NoseJury::new, act, 0, -1);
    }

    /** People of one kind at the places told. */
    static NoseJury hallOf(int kind, int... places) {
        NoseJury x = new NoseJury();
        for (int place : places) {
            x.person(kind, place);
        }
        return x;
    }

    /** Feeds four bytes a call, as far as there are so many. */
    static int feedText(NoseJury x, String text) {
        int had = 0;
        for (int i = 0; i < text.length(); i += 4) {
            int n = Math.min(4, text.length() - i);
            int bytes = 0;
            for (int k = 0; k < n; k++) {
                bytes = bytes << 8 | text.charAt(i + k);
            }
            had = x.feed(bytes, n);
        }
        return had;
    }

    static int told(NoseJury x, String text) {
        feedText(x, text);
        return x.hall();
    }

    /** Six people, three sheets and a missing one, a text on the tape, and an image that is not as it is now. */
    static NoseJury some() {
        NoseJury x = new NoseJury();
        x.person(0, 0);
        x.person(1, 0);
        x.person(2, 2);
        x.person(3, 9);
        x.person(4, 20);
        x.did(0, 0, 80);
        x.did(0, 5, 41);
        x.did(1, 0, 60);
        x.did(1, 2, 30);
        x.did(3, 3, 50);
        x.did(4, 1, 71);
        x.set(1, 2, 7);
        x.set(2, 3, 1);
        x.image();
        x.hours(1);
        x.law(0, 2);
        x.law(1, 15);
        x.person(5, 21);
        x.did(5, 3, 33);
        x.sheet(0, 8, 3);
        x.sheet(1, 16, 4);
        x.sheet(2, 64, 2);
        for (int i = 0; i < 3; i++) {
            x.write(0, i, 5 + 7 * i);
            x.write(1, i, 1000 + i);
        }
        x.write(2, 0, Long.MIN_VALUE);
        x.write(2, 1, 77);
        feedText(x, "wind 3;due 9");
        return x;
    }

    /** Eight people, a sheet of 40, a tape of 120, all as much as can be. */
    static NoseJury full() {
        NoseJury x = new NoseJury();
        for (int p = 0; p < ALL; p++) {
            x.person(p % 6, 5 * p);
            x.did(p, p % 6, 99 - p);
        }
        x.image();
        x.law(0, 4);
        x.law(1, 99);
        x.sheet(3, 64, 40);
        for (int i = 0; i < 40; i++) {
            x.write(3, i, i + 1L);
        }
        feedText(x, "due 9;due 8;due 7;due 6;due 5;due 4;due 3;due 2;due 1;due 2;");
        feedText(x, "wind 1;wind 2;wind 3;wind 4;wind 0;wind 1;wind 2;wind3;wind3");
        return x;
    }

    /** An hour with 9 hours before the last. */
    static NoseJury late() {
        NoseJury x = hallOf(4, 0, 1);
        for (int i = 0; i < 166; i++) {
            x.hours(60);
        }
        x.hours(30);
        x.did(0, 0, 99);
        x.did(0, 5, 99);
        return x;
    }

    private static void sameInAll(NoseJury x, NoseJury y) {
        asked++;
        List<String> ofX = everything(x);
        List<String> ofY = everything(y);
        for (int i = 0; i < ofX.size() && i < ofY.size(); i++) {
            if (!ofX.get(i).equals(ofY.get(i))) {
                tellWrong("it is " + ofX.get(i) + ", due is " + ofY.get(i));
                return;
            }
        }
        if (ofX.size() != ofY.size()) {
            tellWrong("there is not as much to tell");
        }
    }

    /** All that the class tells, by calls that use it up: the tape is read, the image taken back. */
    private static List<String> everything(NoseJury x) {
        List<String> all = new ArrayList<>();
        tellHall(all, x);
        tellSheets(all, x);
        all.add("bytes " + x.count(1));
        all.add("hall() " + x.hall());
        tellHall(all, x);
        all.add("undo() " + x.undo());
        tellHall(all, x);
        all.add("tear() " + x.tear());
        return all;
    }

    private static void tellHall(List<String> all, NoseJury x) {
        for (int what = 0; what <= 4; what++) {
            all.add("now(" + what + ") " + x.now(what));
        }
        int people = x.count(0);
        all.add("people " + people);
        for (int p = 0; p < people; p++) {
            for (int what = 0; what <= 3; what++) {
                all.add("of(" + p + ", " + what + ") " + x.of(p, what));
            }
            for (int deed = 0; deed <= 5; deed++) {
                int scent = x.scent(p, deed, 0);
                all.add("scent(" + p + ", " + deed + ", 0) " + scent);
            }
        }
    }

    private static void tellSheets(List<String> all, NoseJury x) {
        long wide = 0x0123456789abcdefL;
        for (int s = 0; s < 4; s++) {
            for (int i = 0; i <= 40; i++) {
                long v = x.write(s, i, wide);
                all.add("number " + i + " of sheet " + s + " " + v);
                if (v == BEYOND || v == MISSING) {
                    break;
                }
            }
            // What is left of a wide number tells of how many bits a sheet is.
            all.add("bits of sheet " + s + " " + x.write(s, 0, 0));
        }
    }

    private static void tellWrong(String what) {
        wrong++;
        String lines = StackWalker.getInstance().walk(frames -> frames
            .filter(f -> !f.getClassName().equals("Edge"))
            .map(f -> Integer.toString(f.getLineNumber()))
            .collect(Collectors.joining(", ")));
        System.out.println("lines " + lines + ", \"" + sentence + "\": " + what);
    }
}
