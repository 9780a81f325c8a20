import java.io.IOException;
import java.lang.reflect.Method;
import java.nio.file.Files;
import java.nio.file.Path;
import java.util.HashMap;
import java.util.List;
import java.util.Map;
import java.util.Set;
import java.util.TreeSet;
import java.util.regex.Matcher;
import java.util.regex.Pattern;
import java.util.stream.Collectors;
import java.util.stream.Stream;

/** What README.md says is so: its lines of Java answer what stands behind them, its commands work, its files are there. */
public final class NoseJuryReadme {
    private static final Pattern BLOCK = Pattern.compile("^```(java|sh)\\n(.*?)^```$", Pattern.DOTALL | Pattern.MULTILINE);
    private static final Pattern LINE = Pattern.compile("(?:int (\\w+) = )?x\\.(\\w+)\\(([^)]*)\\); +// (-?\\d+)(?:: .*)?");
    private static final String MADE = "NoseJury x = new NoseJury();";
    private static final Pattern FILE = Pattern.compile("`((?:src|\\.ci)/[\\w./]+)`|`(\\w+)`");
    private static final int CALLS_MOST = 512;
    private static int wrong = 0;

    private final Map<String, Integer> named = new HashMap<>();
    private final Set<String> called = new TreeSet<>();
    private NoseJury x = new NoseJury();
    private int calls = 0;

    private static void check(boolean right, String what) {
        if (!right) {
            wrong++;
            System.out.println("README.md: " + what);
        }
    }

    public static void main(String[] args) throws Exception {
        String text = Files.readString(Path.of("README.md"));
        NoseJuryReadme readme = new NoseJuryReadme();
        boolean anyCommand = false;
        for (Matcher m = BLOCK.matcher(text); m.find();) {
            if (m.group(1).equals("java")) {
                readme.runJava(m.group(2).lines().toList());
            } else if (m.group(2).contains("javac")) {
                anyCommand = true;
                runCommands(m.group(2));
            }
        }
        check(anyCommand, "no command is told");
        readme.checkAllCalled();
        checkFiles(text);
        System.out.println(wrong == 0 ? "README.md says what is so" : wrong + " are wrong");
        if (wrong != 0) {
            System.exit(1);
        }
    }

    private void runJava(List<String> lines) throws ReflectiveOperationException {
        for (String line : lines) {
            if (line.equals(MADE)) {
                x = new NoseJury();
                calls = 0;
                continue;
            }
            Matcher m = LINE.matcher(line);
            check(m.matches(), "no call with an answer: " + line);
            if (m.matches()) {
                long got = answered(m.group(2), m.group(3));
                check(got == Long.parseLong(m.group(4)), line + " (answered " + got + ")");
                if (m.group(1) != null) {
                    named.put(m.group(1), (int) got);
                }
            }
        }
        check(calls <= CALLS_MOST, calls + " calls of one object");
    }

    private long answered(String name, String told) throws ReflectiveOperationException {
        calls++;
        called.add(name);
        for (Method method : NoseJury.class.getMethods()) {
            if (method.getDeclaringClass() == NoseJury.class && method.getName().equals(name)) {
                return ((Number) method.invoke(x, arguments(method.getParameterTypes(), told))).longValue();
            }
        }
        throw new NoSuchMethodException(name);
    }

    private Object[] arguments(Class<?>[] types, String told) {
        String[] words = told.isEmpty() ? new String[0] : told.split(", ");
        Object[] values = new Object[words.length];
        for (int i = 0; i < words.length; i++) {
            long v = named.containsKey(words[i]) ? named.get(words[i]) : Long.decode(words[i]);
            if (types[i] == long.class) {
                values[i] = v;
            } else {
                values[i] = (int) v;
            }
        }
        return values;
    }

    private void checkAllCalled() {
        for (Method method : NoseJury.class.getMethods()) {
            boolean own = method.getDeclaringClass() == NoseJury.class;
            check(!own || called.contains(method.getName()), method.getName() + " is not shown");
        }
    }

    /** Run as they stand there, but that what they make is put elsewhere. */
    private static void runCommands(String commands) throws IOException, InterruptedException {
        Path out = Files.createTempDirectory("readme");
        String elsewhere = commands.replaceAll("(?<= )out(?=\\s)", out.toString());
        check(!elsewhere.equals(commands), "what is made is not put to out: " + commands);
        Process process = new ProcessBuilder("sh", "-e", "-c", elsewhere).redirectErrorStream(true).start();
        String printed = new String(process.getInputStream().readAllBytes());
        check(process.waitFor() == 0, commands + printed);
        try (Stream<Path> made = Files.walk(out)) {
            for (Path path : made.sorted((a, b) -> b.compareTo(a)).toList()) {
                Files.delete(path);
            }
        }
    }

    /** Files that are named are there, and each test of the project is named. */
    private static void checkFiles(String text) throws IOException {
        Set<String> words = new TreeSet<>();
        for (Matcher m = FILE.matcher(text); m.find();) {
            if (m.group(1) != null) {
                check(Files.exists(Path.of(m.group(1))), m.group(1) + " is not there");
            } else {
                words.add(m.group(2));
            }
        }
        Set<String> tests;
        try (Stream<Path> files = Files.list(Path.of("src/test/java"))) {
            tests = files.map(f -> f.getFileName().toString().replace(".java", "")).collect(Collectors.toSet());
        }
        for (String test : tests) {
            check(words.contains(test), "the test " + test + " is not named");
        }
    }
}
