import java.util.ArrayList;
import java.util.Arrays;
import java.util.List;
import java.util.Random;
import java.util.regex.Matcher;
import java.util.regex.Pattern;

/**
 * Runs of at most 512 calls drawn by fixed seeds, each answer against a second telling of the document,
 * written apart from the class: kinds are classes, every ON goes in a copy of all, tokens are a list.
 */
public final class NoseJuryModel {
    private static final int RUNS = 900;
    /** What an object is promised for; a text, and all that is asked at the end of a run, take so many of them. */
    private static final int CALLS = 512;
    private static final int TEXT_CALLS = 32;
    private static final int ALL_CALLS = 5 + 8 * 12;
    private static final String[] NAMES = {
        "law", "person", "of", "set", "did", "scent", "turn", "as", "wash", "meet", "smells", "deed", "guilty",
        "convicts", "hours", "now", "on", "clean", "wind", "seat", "bath", "kind", "due", "jury", "juries", "from",
        "nose", "feed", "wipe", "hall", "sheet", "write", "copy", "lays", "book", "read", "image", "undo", "tear",
        "count", "status", "text",
    };

    private static final class Finding extends Exception {
        final int number;

        Finding(int number) {
            this.number = number;
        }
    }

    private static Finding beyond() {
        return new Finding(1);
    }

    private static void need(boolean right, int finding) throws Finding {
        if (!right) {
            throw new Finding(finding);
        }
    }

    private static class Person {
        int at;
        int nose = 5;
        boolean cold;
        int[] scents = new int[6];

        int off(int deed, int hour) {
            return scents[deed];
        }

        int sense(int g, int a) {
            return cold ? 0 : g * nose / (a + 5);
        }

        boolean sparesNeighbours() {
            return false;
        }

        Person like(Person p) {
            at = p.at;
            nose = p.nose;
            cold = p.cold;
            scents = p.scents.clone();
            return this;
        }
    }

    private static final class Cook extends Person {
        @Override
        int off(int deed, int hour) {
            return deed == 0 ? 0 : super.off(deed, hour);
        }

        @Override
        int sense(int g, int a) {
            return a == 0 ? 0 : super.sense(g, a);
        }
    }

    private static class Barrister extends Person {
        @Override
        int off(int deed, int hour) {
            int v = super.off(deed, hour) - 10;
            return v < 0 ? 0 : v;
        }

        @Override
        boolean sparesNeighbours() {
            return true;
        }
    }

    private static class Dog extends Person {
        @Override
        int off(int deed, int hour) {
            int v = super.off(deed, hour);
            return v + v / 2;
        }

        @Override
        int sense(int g, int a) {
            return 2 * super.sense(g, a);
        }
    }

    private static final class Perfumer extends Barrister {
        @Override
        int off(int deed, int hour) {
            int v = super.off(deed, hour);
            return hour % 2 == 0 ? v / 2 : v;
        }
    }

    private static final class Hound extends Dog {
        @Override
        int off(int deed, int hour) {
            int v = super.off(deed, hour) - 5;
            return v < 0 ? 0 : v;
        }

        @Override
        int sense(int g, int a) {
            int v = super.sense(g, a);
            return v > 0 ? v + 3 : v;
        }
    }

    private static final Class<?>[] KINDS = {
        Person.class, Cook.class, Barrister.class, Dog.class, Perfumer.class, Hound.class,
    };

    private static Person ofKind(int kind) {
        switch (kind) {
            case 0:
                return new Person();
            case 1:
                return new Cook();
            case 2:
                return new Barrister();
            case 3:
                return new Dog();
            case 4:
                return new Perfumer();
            default:
                return new Hound();
        }
    }

    private static int kindOf(Person p) {
        return Arrays.asList(KINDS).indexOf(p.getClass());
    }

    private static final class World {
        int wind;
        int due = 20;
        int hour;
        List<Person> people = new ArrayList<>();

        World twin() {
            World w = new World();
            w.wind = wind;
            w.due = due;
            w.hour = hour;
            for (Person p : people) {
                w.people.add(ofKind(kindOf(p)).like(p));
            }
            return w;
        }

        World later(int n) {
            World w = this;
            for (int i = 0; i < n; i++) {
                w = w.nextHour();
            }
            return w == this ? twin() : w;
        }

        World nextHour() {
            World w = twin();
            w.hour++;
            for (int i = 0; i < people.size(); i++) {
                for (int d = 0; d < 6; d++) {
                    int v = people.get(i).scents[d];
                    int left = d == 5 ? v - v / 2 : v - (v / 10 + 1);
                    left = left < 0 ? 0 : left;
                    for (int j = 0; j < people.size(); j++) {
                        if (i != j && people.get(i).at == people.get(j).at) {
                            left = Math.max(left, people.get(j).scents[d] / 4);
                        }
                    }
                    w.people.get(i).scents[d] = left;
                }
            }
            return w;
        }

        static int apart(Person a, Person b) {
            return Math.abs(a.at / 8 - b.at / 8) + Math.abs(a.at % 8 - b.at % 8);
        }

        boolean downwind(Person a, Person b) {
            int rows = a.at / 8 - b.at / 8;
            int columns = a.at % 8 - b.at % 8;
            return wind == 1 && rows < 0 || wind == 2 && columns > 0 || wind == 3 && rows > 0
                || wind == 4 && columns < 0;
        }

        int smells(int i, int j, int d) {
            Person a = people.get(i);
            Person b = people.get(j);
            int v = a.sense(b.off(d, hour), apart(a, b));
            return downwind(a, b) ? v * 2 : downwind(b, a) ? v / 2 : v;
        }

        boolean finds(int i, int j) {
            if (people.get(i).sparesNeighbours() && apart(people.get(i), people.get(j)) <= 1) {
                return false;
            }
            int most = 0;
            for (int d = 0; d < 6; d++) {
                most = Math.max(most, smells(i, j, d));
            }
            return most >= due;
        }

        int finders(int j) {
            int set = 0;
            for (int i = 0; i < people.size(); i++) {
                set += i != j && finds(i, j) ? 1 << i : 0;
            }
            return set;
        }

        int many(int j) {
            return Integer.bitCount(finders(j));
        }

        int total() {
            int sum = 0;
            for (Person p : people) {
                sum += Arrays.stream(p.scents).sum();
            }
            return sum;
        }

        boolean convicts(int jury, int j) {
            double found = Integer.bitCount(jury & finders(j));
            return found > Integer.bitCount(jury) / 2.0;
        }
    }

    private static final class Token {
        final int start;
        final String text;

        Token(int start, String text) {
            this.start = start;
            this.text = text;
        }

        boolean isNumber(int least, int most) {
            if (!text.matches("[0-9]+")) {
                return false;
            }
            java.math.BigInteger v = new java.math.BigInteger(text);
            return v.bitLength() < 31 && v.intValue() >= least && v.intValue() <= most;
        }
    }

    private static final class Fault extends Exception {
        final int place;

        Fault(int place) {
            this.place = place;
        }
    }

    /** A text is read from a list of tokens, the last of which is the empty one at the end. */
    private static final class Text {
        final List<Token> tokens = new ArrayList<>();
        int at = 0;

        Text(String tape) {
            Matcher m = Pattern.compile("[a-z]+|[0-9]+|[^ ]", Pattern.DOTALL).matcher(tape);
            while (m.find()) {
                tokens.add(new Token(m.start(), m.group()));
            }
            tokens.add(new Token(tape.length(), ""));
        }

        boolean has(String word) {
            if (tokens.get(at).text.equals(word)) {
                at++;
                return true;
            }
            return false;
        }

        void must(boolean right) throws Fault {
            if (!right) {
                throw new Fault(tokens.get(at).start);
            }
        }

        int number(int least, int most) throws Fault {
            must(tokens.get(at).isNumber(least, most));
            return Integer.parseInt(tokens.get(at++).text);
        }

        int into(World w) throws Fault {
            int items = 0;
            do {
                item(w);
                items++;
            } while (has(";"));
            must(at == tokens.size() - 1);
            return items;
        }

        void item(World w) throws Fault {
            if (has("wind")) {
                w.wind = number(0, 4);
                return;
            }
            if (has("due")) {
                w.due = number(1, 99);
                return;
            }
            List<String> names = Arrays.asList("person", "cook", "barrister", "dog", "perfumer", "hound");
            int kind = names.indexOf(tokens.get(at).text);
            must(kind >= 0 && w.people.size() < 8);
            at++;
            Person p = ofKind(kind);
            must(has("at"));
            p.at = number(0, 47);
            if (has("nose")) {
                p.nose = number(0, 9);
            }
            p.cold = has("cold");
            if (has("did")) {
                int deed = number(0, 5);
                p.scents[deed] = number(0, 99);
            }
            w.people.add(p);
        }
    }

    private static final class Model {
        World w = new World();
        World kept;
        StringBuilder tape = new StringBuilder();
        int[] bits = new int[4];
        long[][] rows = new long[4][0];
        int[] told = new int[8];

        long call(String name, int[] a, long v) {
            try {
                return answer(name, a, v);
            } catch (Finding f) {
                told[0]++;
                told[f.number]++;
                return -1000000000L - f.number;
            }
        }

        void one(int p) throws Finding {
            need(p >= 0 && p < w.people.size(), 1);
        }

        void two(int p, int q) throws Finding {
            one(p);
            one(q);
            need(p != q, 1);
        }

        void in(int v, int least, int most) throws Finding {
            need(v >= least && v <= most, 1);
        }

        void there(int s) throws Finding {
            in(s, 0, 3);
            need(bits[s] != 0, 6);
        }

        long narrow(int s, long v) {
            return v << 64 - bits[s] >> 64 - bits[s];
        }

        long answer(String name, int[] a, long v) throws Finding {
            switch (name) {
                case "law":
                case "person":
                case "of":
                case "set":
                case "did":
                case "scent":
                case "turn":
                case "as":
                case "wash":
                case "meet":
                    return people(name, a);
                case "wind":
                case "seat":
                case "bath":
                case "kind":
                case "due":
                case "jury":
                case "juries":
                case "from":
                case "nose":
                    return best(name, a);
                case "feed":
                case "wipe":
                case "hall":
                    return text(name, a);
                case "sheet":
                case "write":
                case "copy":
                case "lays":
                case "book":
                case "read":
                    return sheets(name, a, v);
                case "image":
                case "undo":
                case "tear":
                case "count":
                case "status":
                    return images(name, a);
                default:
                    return noses(name, a);
            }
        }

        long people(String name, int[] a) throws Finding {
            if (name.equals("law")) {
                in(a[0], 0, 1);
                in(a[1], a[0], a[0] == 0 ? 4 : 99);
                int was = a[0] == 0 ? w.wind : w.due;
                w.wind = a[0] == 0 ? a[1] : w.wind;
                w.due = a[0] == 1 ? a[1] : w.due;
                return was;
            }
            if (name.equals("person")) {
                in(a[0], 0, 5);
                in(a[1], 0, 47);
                need(w.people.size() < 8, 2);
                Person p = ofKind(a[0]);
                p.at = a[1];
                w.people.add(p);
                return w.people.size() - 1;
            }
            one(a[0]);
            Person p = w.people.get(a[0]);
            int was;
            switch (name) {
                case "of":
                    in(a[1], 0, 5);
                    int off = 0;
                    for (int d = 0; d < 6; d++) {
                        off += p.off(d, w.hour);
                    }
                    return new int[] {kindOf(p), p.at, p.nose, p.cold ? 1 : 0, Arrays.stream(p.scents).sum(), off}[a[1]];
                case "set":
                    in(a[1], 1, 3);
                    in(a[2], 0, a[1] == 1 ? 47 : a[1] == 2 ? 9 : 1);
                    was = a[1] == 1 ? p.at : a[1] == 2 ? p.nose : p.cold ? 1 : 0;
                    if (a[1] == 1) {
                        p.at = a[2];
                    } else if (a[1] == 2) {
                        p.nose = a[2];
                    } else {
                        p.cold = a[2] == 1;
                    }
                    return was;
                case "did":
                    in(a[1], 0, 5);
                    in(a[2], 0, 99);
                    was = p.scents[a[1]];
                    p.scents[a[1]] = a[2];
                    return was;
                case "scent":
                    in(a[1], 0, 5);
                    in(a[2], 0, 1);
                    return a[2] == 0 ? p.scents[a[1]] : p.off(a[1], w.hour);
                case "turn":
                    in(a[1], 0, 5);
                    w.people.set(a[0], ofKind(a[1]).like(p));
                    return kindOf(p);
                case "as":
                    in(a[1], 0, 5);
                    need(KINDS[a[1]].isInstance(p), 3);
                    return p.nose;
                case "wash":
                    was = w.total();
                    for (int d = 0; d < 6; d++) {
                        p.scents[d] /= 3;
                    }
                    return was - w.total();
                default:
                    two(a[0], a[1]);
                    int more = 0;
                    for (int d = 0; d < 6; d++) {
                        int half = Math.max(p.scents[d], w.people.get(a[1]).scents[d]) / 2;
                        for (Person q : new Person[] {p, w.people.get(a[1])}) {
                            more += q.scents[d] < half ? 1 : 0;
                            q.scents[d] = Math.max(q.scents[d], half);
                        }
                    }
                    return more;
            }
        }

        long noses(String name, int[] a) throws Finding {
            switch (name) {
                case "smells":
                    two(a[0], a[1]);
                    in(a[2], 0, 5);
                    return w.smells(a[0], a[1], a[2]);
                case "deed":
                    two(a[0], a[1]);
                    int best = 5;
                    for (int d = 4; d >= 0; d--) {
                        best = w.smells(a[0], a[1], d) >= w.smells(a[0], a[1], best) ? d : best;
                    }
                    need(w.smells(a[0], a[1], best) > 0, 4);
                    return best;
                case "guilty":
                    one(a[0]);
                    return w.finders(a[0]);
                case "convicts":
                    in(a[0], 1, (1 << w.people.size()) - 1);
                    one(a[1]);
                    need((a[0] >> a[1]) % 2 == 0, 5);
                    return w.convicts(a[0], a[1]) ? 1 : 0;
                case "hours":
                    in(a[0], 1, 60);
                    need(w.hour + a[0] <= 9999, 5);
                    w = w.later(a[0]);
                    return w.total();
                case "now":
                    in(a[0], 0, 4);
                    int set = 0;
                    for (int j = 0; j < w.people.size(); j++) {
                        set += w.many(j) > 0 ? 1 << j : 0;
                    }
                    return new int[] {w.hour, w.wind, w.due, w.total(), set}[a[0]];
                case "on":
                    one(a[0]);
                    in(a[1], 0, 5);
                    in(a[2], 0, 60);
                    return w.later(a[2]).people.get(a[0]).scents[a[1]];
                default:
                    one(a[0]);
                    World on = w;
                    for (int n = 0; n <= 60; n++) {
                        if (on.many(a[0]) == 0) {
                            return n;
                        }
                        on = on.nextHour();
                    }
                    throw new Finding(4);
            }
        }

        long best(String name, int[] a) throws Finding {
            one(a[0]);
            List<Integer> counts = new ArrayList<>();
            switch (name) {
                case "wind":
                    for (int i = 0; i < 5; i++) {
                        World t = w.twin();
                        t.wind = i;
                        counts.add(t.many(a[0]));
                    }
                    return counts.indexOf(java.util.Collections.min(counts));
                case "seat":
                    for (int i = 0; i < 48; i++) {
                        World t = w.twin();
                        t.people.get(a[0]).at = i;
                        counts.add(t.many(a[0]));
                    }
                    return counts.indexOf(java.util.Collections.min(counts));
                case "kind":
                    for (int i = 0; i < 6; i++) {
                        World t = w.twin();
                        t.people.set(a[0], ofKind(i).like(t.people.get(a[0])));
                        counts.add(t.many(a[0]));
                    }
                    return counts.indexOf(java.util.Collections.min(counts));
                case "bath":
                    for (int i = 0; i < w.people.size(); i++) {
                        World t = w.twin();
                        for (int d = 0; d < 6; d++) {
                            t.people.get(i).scents[d] /= 3;
                        }
                        counts.add(t.later(1).many(a[0]));
                    }
                    int least = java.util.Collections.min(counts);
                    need(least < w.later(1).many(a[0]), 4);
                    return counts.indexOf(least);
                case "due":
                    for (int i = 1; i <= 99; i++) {
                        World t = w.twin();
                        t.due = i;
                        if (t.finders(a[0]) == 0) {
                            return i;
                        }
                    }
                    throw new Finding(4);
                case "from":
                    in(a[1], 0, 5);
                    int giver = -1;
                    Person p = w.people.get(a[0]);
                    World alone = w.twin();
                    for (int i = 0; i < w.people.size(); i++) {
                        Person q = w.people.get(i);
                        if (i != a[0] && q.at == p.at) {
                            alone.people.get(i).at = (p.at + 1) % 48;
                            giver = giver < 0 || q.scents[a[1]] > w.people.get(giver).scents[a[1]] ? i : giver;
                        }
                    }
                    int without = alone.later(1).people.get(a[0]).scents[a[1]];
                    need(w.later(1).people.get(a[0]).scents[a[1]] > without, 4);
                    return giver;
                case "nose":
                    two(a[0], a[1]);
                    for (int i = 0; i < 10; i++) {
                        World t = w.twin();
                        t.people.get(a[0]).nose = i;
                        t.people.get(a[0]).cold = false;
                        if (t.finds(a[0], a[1])) {
                            return i;
                        }
                    }
                    throw new Finding(4);
                default:
                    in(a[1], 1, 7);
                    List<Integer> sets = new ArrayList<>();
                    for (int set = 1; set < 1 << w.people.size(); set++) {
                        if (Integer.bitCount(set) == a[1] && (set >> a[0]) % 2 == 0 && w.convicts(set, a[0])) {
                            sets.add(set);
                        }
                    }
                    need(name.equals("juries") || !sets.isEmpty(), 4);
                    return name.equals("juries") ? sets.size() : sets.get(0);
            }
        }

        long text(String name, int[] a) throws Finding {
            if (name.equals("feed")) {
                in(a[1], 1, 4);
                need(tape.length() + a[1] <= 120, 2);
                for (int i = 4 - a[1]; i < 4; i++) {
                    tape.append((char) (a[0] << 8 * i >>> 24));
                }
                return tape.length();
            }
            String had = tape.toString();
            tape.setLength(0);
            if (name.equals("wipe")) {
                return had.length();
            }
            World t = w.twin();
            try {
                int items = new Text(had).into(t);
                w = t;
                return items;
            } catch (Fault f) {
                return -1 - f.place;
            }
        }

        long sheets(String name, int[] a, long v) throws Finding {
            in(a[0], 0, 3);
            int s = a[0];
            switch (name) {
                case "sheet":
                    need(Arrays.asList(0, 8, 16, 64).contains(a[1]), 1);
                    need(a[2] >= 0, 7);
                    in(a[2], 0, 40);
                    bits[s] = a[1];
                    rows[s] = new long[a[1] == 0 ? 0 : a[2]];
                    return rows[s].length;
                case "write":
                    there(s);
                    in(a[1], 0, rows[s].length - 1);
                    long was = rows[s][a[1]];
                    rows[s][a[1]] = narrow(s, v);
                    return was;
                case "copy":
                    in(a[2], 0, 3);
                    there(s);
                    there(a[2]);
                    need(bits[s] == bits[a[2]], 3);
                    need(a[1] >= 0 && a[3] >= 0 && a[4] >= 0, 1);
                    need((long) a[1] + a[4] <= rows[s].length && (long) a[3] + a[4] <= rows[a[2]].length, 1);
                    long[] taken = Arrays.copyOfRange(rows[s], a[1], a[1] + a[4]);
                    for (int i = 0; i < a[4]; i++) {
                        rows[a[2]][a[3] + i] = taken[i];
                    }
                    return a[4];
                case "lays":
                    there(s);
                    int came = 0;
                    for (int i = 0; i < rows[s].length; i++) {
                        if (i < w.people.size() && rows[s][i] >= 0 && rows[s][i] <= 47) {
                            w.people.get(i).at = (int) rows[s][i];
                            came++;
                        }
                    }
                    return came;
                default:
                    there(s);
                    two(a[1], a[2]);
                    in(a[3], 0, 5);
                    return name.equals("book") ? book(a) : read(a);
            }
        }

        long book(int[] a) {
            World t = w;
            for (int i = 0; i < rows[a[0]].length; i++) {
                rows[a[0]][i] = narrow(a[0], t.smells(a[1], a[2], a[3]));
                t = t.nextHour();
            }
            return rows[a[0]].length;
        }

        long read(int[] a) {
            int many = 0;
            for (int scent = 0; scent < 100; scent++) {
                World t = w.twin();
                t.people.get(a[2]).scents[a[3]] = scent;
                boolean so = true;
                for (int i = 0; so && i < rows[a[0]].length; i++) {
                    so = rows[a[0]][i] == t.smells(a[1], a[2], a[3]);
                    t = t.nextHour();
                }
                many += so ? 1 : 0;
            }
            return many;
        }

        long images(String name, int[] a) throws Finding {
            switch (name) {
                case "image":
                    kept = w.twin();
                    return 1;
                case "undo":
                    need(kept != null, 4);
                    w = kept.twin();
                    return w.people.size();
                case "tear":
                    int was = kept == null ? 0 : 1;
                    kept = null;
                    return was;
                case "count":
                    in(a[0], 0, 3);
                    int colds = 0;
                    int noses = 0;
                    for (Person p : w.people) {
                        colds += p.cold ? 1 : 0;
                        noses += p.nose;
                    }
                    return new int[] {w.people.size(), tape.length(), colds, noses}[a[0]];
                default:
                    in(a[0], -1, 6);
                    return told[a[0] + 1];
            }
        }
    }

    private static long real(NoseJury x, String name, int[] a, long v) throws ReflectiveOperationException {
        for (java.lang.reflect.Method m : NoseJury.class.getMethods()) {
            if (m.getDeclaringClass() == NoseJury.class && m.getName().equals(name)) {
                Object[] args = new Object[m.getParameterCount()];
                for (int i = 0; i < args.length; i++) {
                    args[i] = m.getParameterTypes()[i] == long.class ? (Object) v : (Object) a[i];
                }
                return ((Number) m.invoke(x, args)).longValue();
            }
        }
        throw new IllegalStateException(name);
    }

    /** Mostly arguments that are fit, with the edges of each and some far out. */
    private static int draw(Random r, int most) {
        int dice = r.nextInt(40);
        if (dice == 0) {
            return -1;
        }
        if (dice == 1) {
            return most + 1;
        }
        if (dice == 2 && r.nextInt(3) == 0) {
            return r.nextInt();
        }
        return dice == 3 ? most : dice == 4 ? 0 : r.nextInt(most + 1);
    }

    /** The greatest fit value of each argument. */
    private static int[] mosts(String name, int people, Random r) {
        int p = Math.max(people - 1, 0);
        switch (name) {
            case "law":
                return r.nextBoolean() ? new int[] {0, 4} : new int[] {1, r.nextInt(3) == 0 ? 99 : 30};
            case "person":
                return new int[] {5, r.nextInt(3) == 0 ? 47 : 10};
            case "of":
                return new int[] {p, 5};
            case "set":
                return new int[] {p, 3, r.nextInt(3) == 0 ? 47 : 9};
            case "did":
                return new int[] {p, 5, 99};
            case "scent":
                return new int[] {p, 5, 1};
            case "turn":
            case "as":
            case "from":
                return new int[] {p, 5};
            case "meet":
            case "deed":
            case "nose":
                return new int[] {p, p};
            case "smells":
                return new int[] {p, p, 5};
            case "convicts":
                return new int[] {(1 << people) - 1, p};
            case "hours":
                return new int[] {r.nextInt(4) == 0 ? 60 : 3};
            case "now":
                return new int[] {4};
            case "on":
                return new int[] {p, 5, r.nextInt(3) == 0 ? 60 : 5};
            case "jury":
            case "juries":
                return new int[] {p, 7};
            case "feed":
                return new int[] {0x7ffffffe, 4};
            case "sheet":
                return new int[] {3, 64, r.nextInt(3) == 0 ? 40 : 5};
            case "write":
                return new int[] {3, 5};
            case "copy":
                return new int[] {3, 3, 3, 3, 3};
            case "lays":
                return new int[] {3};
            case "book":
            case "read":
                return new int[] {3, p, p, 5};
            case "count":
                return new int[] {3};
            case "status":
                return new int[] {6};
            default:
                return new int[] {p};
        }
    }

    private static String drawText(Random r) {
        String[] kinds = {"person", "cook", "barrister", "dog", "perfumer", "hound"};
        StringBuilder b = new StringBuilder();
        int items = 1 + r.nextInt(3);
        for (int i = 0; i < items; i++) {
            b.append(i == 0 ? "" : r.nextBoolean() ? ";" : " ; ");
            int dice = r.nextInt(6);
            if (dice == 0) {
                b.append("wind ").append(r.nextInt(5));
            } else if (dice == 1) {
                b.append("due ").append(1 + r.nextInt(40));
            } else {
                b.append(kinds[r.nextInt(6)]).append(" at ").append(r.nextInt(48));
                b.append(r.nextBoolean() ? " nose " + r.nextInt(10) : "");
                b.append(r.nextInt(4) == 0 ? " cold" : "");
                b.append(r.nextBoolean() ? " did " + r.nextInt(6) + " " + r.nextInt(100) : "");
            }
        }
        if (r.nextInt(3) == 0) {
            String strange = " ;;09az\tA9;-dn" + (char) 200 + (char) 0;
            int at = r.nextInt(b.length());
            char c = strange.charAt(r.nextInt(strange.length()));
            int how = r.nextInt(3);
            if (how == 0) {
                b.setCharAt(at, c);
            } else if (how == 1) {
                b.insert(at, c);
            } else {
                b.setLength(at);
            }
        }
        return b.length() > 120 ? b.substring(0, 120) : b.toString();
    }

    private static final class Run {
        final NoseJury x = new NoseJury();
        final Model model = new Model();
        final StringBuilder log = new StringBuilder();
        int calls = 0;

        boolean agree(String name, int[] a, long v) throws ReflectiveOperationException {
            calls++;
            long got = real(x, name, a, v);
            long want = model.call(name, a, v);
            log.append(name).append(Arrays.toString(a)).append(' ').append(v).append(" = ").append(want).append('\n');
            if (got != want) {
                System.out.println(log);
                System.out.println("the last answered " + got + ", due is " + want);
            }
            return got == want;
        }

        boolean agreeOnText(String text) throws ReflectiveOperationException {
            boolean same = agree("wipe", new int[0], 0);
            for (int i = 0; same && i < text.length(); i += 4) {
                int n = Math.min(4, text.length() - i);
                int bytes = 0;
                for (int k = 0; k < n; k++) {
                    bytes = bytes << 8 | text.charAt(i + k);
                }
                same = agree("feed", new int[] {bytes, n}, 0);
            }
            return same && agree("hall", new int[0], 0);
        }

        boolean agreeOnAll() throws ReflectiveOperationException {
            boolean same = true;
            for (int what = 0; same && what < 5; what++) {
                same = agree("now", new int[] {what}, 0);
            }
            for (int p = 0; same && p < model.w.people.size(); p++) {
                for (int what = 0; same && what < 6; what++) {
                    same = agree("of", new int[] {p, what}, 0) && agree("scent", new int[] {p, what, 0}, 0);
                }
            }
            return same;
        }
    }

    private static boolean runs(long seed) throws ReflectiveOperationException {
        Random r = new Random(seed);
        Run run = new Run();
        while (run.calls < CALLS - TEXT_CALLS - ALL_CALLS) {
            String name = NAMES[r.nextInt(NAMES.length)];
            if (r.nextInt(8) == 0) {
                name = r.nextBoolean() ? "did" : "person";
            }
            if (name.equals("text")) {
                if (!run.agreeOnText(drawText(r))) {
                    return false;
                }
                continue;
            }
            int[] mosts = mosts(name, run.model.w.people.size(), r);
            int[] a = new int[mosts.length];
            for (int k = 0; k < a.length; k++) {
                a[k] = draw(r, mosts[k]);
            }
            if (name.equals("sheet") && r.nextInt(8) != 0) {
                a[1] = new int[] {8, 16, 64, 0}[r.nextInt(7) % 4];
            }
            long v = r.nextBoolean() ? r.nextInt(50) : r.nextLong();
            if (!run.agree(name, a, v)) {
                return false;
            }
        }
        return run.agreeOnAll();
    }

    public static void main(String[] args) throws ReflectiveOperationException {
        int wrong = 0;
        for (int seed = 1; seed <= RUNS; seed++) {
            if (!runs(seed)) {
                System.out.println("run " + seed + " is not as the model's");
                wrong++;
            }
            if (wrong > 2) {
                break;
            }
        }
        System.out.println(wrong == 0 ? RUNS + " runs are as the model's" : wrong + " runs are wrong");
        if (wrong != 0) {
            System.exit(1);
        }
    }
}
