import java.io.IOException;
import java.nio.file.Files;
import java.nio.file.Path;
import java.util.HashMap;
import java.util.HashSet;
import java.util.List;
import java.util.Map;
import java.util.Set;
import java.util.regex.Matcher;
import java.util.regex.Pattern;

/** What of ../shared/LANGUAGE.md can be seen from the lines of the class alone. */
public final class NoseJuryLanguage {
    private static final Path FILE = Path.of("src/main/java/NoseJury.java");
    private static final Pattern COMMENT = Pattern.compile("/\\*.*?\\*/|//[^\\n]*", Pattern.DOTALL);
    private static final Pattern METHOD = Pattern.compile("^ {4,8}(?:[a-z]+ )*(\\w+(?:\\[\\])* )?(\\w+)\\(([^)]*)\\) \\{$");
    private static final String[] NOT_THERE = {
        "\\bpackage\\b", "\\bimport\\b", "\\bthrow\\b", "\\bthrows\\b", "\\btry\\b", "\\bcatch\\b", "\\bsynchronized\\b",
        "\\bassert\\b", "\\bprotected\\b", "\\bdouble\\b", "\\bfloat\\b", "->", "::", "@", "Exact\\(", "\\bvar\\b",
        "\\bSystem\\.(?!arraycopy\\b)", "\\bThread\\b", "\\bhashCode\\b", "\\btoString\\b", "while \\(true\\)", "for \\(;;\\)",
        "\" \\+|\\+ \"", "[^\\x00-\\x7f]",
    };
    private static final int LINES_MOST = 60;
    private static final int PARAMETERS_MOST = 7;
    private static final int CLASSES_MOST = 12;
    private static final int CALLS_DEEP_MOST = 8;
    private static final Pattern CALL = Pattern.compile("\\b(\\w+)\\(");
    private static int wrong = 0;

    private static void check(boolean right, String what) {
        if (!right) {
            wrong++;
            System.out.println("the language: " + what);
        }
    }

    public static void main(String[] args) throws IOException {
        // Line for line, with the comments taken out.
        String text = COMMENT.matcher(Files.readString(FILE)).replaceAll(m -> m.group().replaceAll("[^\\n]", ""));
        for (String pattern : NOT_THERE) {
            Matcher m = Pattern.compile(pattern).matcher(text);
            check(!m.find(), pattern + " stands there");
        }
        int classes = 0;
        for (Matcher m = Pattern.compile("\\bclass \\w+ \\{").matcher(text); m.find();) {
            classes++;
        }
        check(classes >= 1 && classes <= CLASSES_MOST, classes + " classes");
        checkMethods(text.lines().toList());
        checkDepth(text.lines().toList());
        System.out.println(wrong == 0 ? "the language is kept" : wrong + " are wrong");
        if (wrong != 0) {
            System.exit(1);
        }
    }

    private static void checkMethods(List<String> lines) {
        int methods = 0;
        for (int i = 0; i < lines.size(); i++) {
            Matcher m = METHOD.matcher(lines.get(i));
            if (!m.matches() || lines.get(i).contains(" new ")) {
                continue;
            }
            methods++;
            String end = lines.get(i).replaceAll("\\S.*", "") + "}";
            int last = i + lines.subList(i, lines.size()).indexOf(end);
            check(last > i, m.group(2) + " has no end");
            check(last - i <= LINES_MOST, m.group(2) + " has " + (last - i) + " lines");
            check(m.group(3).split(",").length <= PARAMETERS_MOST, m.group(2) + " has too many parameters");
            boolean makes = lines.subList(i, Math.max(last, i)).stream().anyMatch(line -> line.contains("new "));
            check(!makes || Character.isUpperCase(m.group(2).charAt(0)), m.group(2) + " makes objects, as constructors alone do");
        }
        check(methods > 42, methods + " methods are seen");
    }

    /** Methods that bear one name in several classes are taken as one, so no call is seen less deep than it goes. */
    private static void checkDepth(List<String> lines) {
        Map<String, Set<String>> calls = new HashMap<>();
        String method = "";
        for (String line : lines) {
            Matcher m = METHOD.matcher(line);
            if (m.matches()) {
                method = m.group(2);
                calls.putIfAbsent(method, new HashSet<>());
                continue;
            }
            for (Matcher call = CALL.matcher(line); call.find() && !method.isEmpty();) {
                calls.get(method).add(call.group(1));
            }
        }
        check(calls.getOrDefault("hall", Set.of()).contains("tellTo"), "no calls are seen");
        for (String name : calls.keySet()) {
            int deep = deep(name, calls, 1);
            check(deep <= CALLS_DEEP_MOST, name + " goes " + deep + " calls deep");
        }
    }

    /** The method itself is one call, a function of the library one more. */
    private static int deep(String name, Map<String, Set<String>> calls, int above) {
        int most = above;
        if (above > 2 * CALLS_DEEP_MOST) {
            return most;
        }
        for (String called : calls.getOrDefault(name, Set.of())) {
            most = Math.max(most, deep(called, calls, above + 1));
        }
        return most;
    }
}
