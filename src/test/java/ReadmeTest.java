import java.io.IOException;
import java.lang.reflect.Method;
import java.lang.reflect.Modifier;
import java.nio.charset.StandardCharsets;
import java.nio.file.Files;
import java.nio.file.Path;
import java.util.ArrayList;
import java.util.Comparator;
import java.util.List;
import java.util.regex.Matcher;
import java.util.regex.Pattern;
import java.util.stream.Stream;

/**
 * README.md as it stands: each command is run in a copy that has nothing compiled, each example is a file of the project
 * and prints what is said, each row of a table of calls is made, and each call of the face has such a row.
 */
public final class ReadmeTest {
    private static final Pattern BLOCK = Pattern.compile("(?ms)^```(\\w*)\n(.*?)^```$");
    private static final Pattern MADE = Pattern.compile("`(\\w+)\\(([^)`]*)\\)` is `([^`]+)`");
    private static final String CI = ".ci/run";
    private static int passed;
    private static int failed;

    public static void main(String[] args) throws Exception {
        String readme = Files.readString(Path.of("README.md"), StandardCharsets.UTF_8);
        blocks(readme);
        rows(readme);
        face(readme);
        System.out.println(passed + " passed, " + failed + " failed");
        if (failed != 0) System.exit(1);
    }

    private static void count(String what, boolean right) {
        if (right) passed++;
        else {
            failed++;
            System.out.println("FAILED: " + what);
        }
    }

    // ---- commands and examples ----

    private static void blocks(String readme) throws Exception {
        Path room = Files.createTempDirectory("headservo-readme");
        try {
            Path copy = cleanCopy(room);
            List<String[]> all = new ArrayList<>();
            Matcher m = BLOCK.matcher(readme);
            while (m.find()) all.add(new String[] {m.group(1), m.group(2)});
            int commands = 0;
            int examples = 0;
            for (int i = 0; i < all.size(); i++) {
                String kind = all.get(i)[0];
                String text = all.get(i)[1];
                boolean prints = i + 1 < all.size() && all.get(i + 1)[0].equals("text");
                if (kind.equals("java")) {
                    examples++;
                    example(text, i + 2 < all.size() ? all.get(i + 1)[1] : "");
                } else if (kind.equals("sh")) {
                    commands++;
                    command(copy, text.trim(), prints ? all.get(i + 1)[1] : null);
                } else if (kind.equals("text")) {
                    count("what is printed stands behind a command", i > 0 && all.get(i - 1)[0].equals("sh"));
                }
            }
            count("commands and examples are found", commands >= 7 && examples >= 3);
        } finally {
            try (Stream<Path> left = Files.walk(room)) {
                for (Path p : left.sorted(Comparator.reverseOrder()).toList()) Files.delete(p);
            }
        }
    }

    /** Just what a checkout has, with the shared folder beside it. */
    private static Path cleanCopy(Path room) throws IOException {
        Path copy = Files.createDirectory(room.resolve("main"));
        for (String part : new String[] {"src", ".ci", "README.md"}) {
            try (Stream<Path> files = Files.walk(Path.of(part))) {
                for (Path p : files.toList()) Files.copy(p, copy.resolve(p.toString()));
            }
        }
        Files.createSymbolicLink(room.resolve("shared"), Path.of("../shared").toRealPath());
        return copy;
    }

    private static void example(String text, String next) throws IOException {
        Matcher named = Pattern.compile("public final class (\\w+)").matcher(text);
        boolean found = named.find();
        count("an example has a name", found);
        if (!found) return;
        Path file = Path.of("src/example/java/" + named.group(1) + ".java");
        count(file + " is as README.md has it", Files.exists(file) && Files.readString(file).equals(text));
        count("the command of " + file + " stands behind it", next.contains(file.toString()));
    }

    private static void command(Path copy, String command, String prints) throws Exception {
        if (command.equals(CI)) {
            count(CI + " can be run", Files.isExecutable(copy.resolve(CI)));
            return;
        }
        Path log = copy.resolve("../log");
        Process p = new ProcessBuilder("sh", "-c", command).directory(copy.toFile()).redirectErrorStream(true)
            .redirectOutput(log.toFile()).start();
        int code = p.waitFor();
        String printed = Files.readString(log, StandardCharsets.UTF_8);
        boolean right = code == 0 && (prints == null || printed.equals(prints));
        if (!right) System.out.println("ended with " + code + " and printed: " + printed);
        count(command, right);
    }

    // ---- the tables of calls ----

    private static void rows(String readme) throws Exception {
        int made = 0;
        for (String line : readme.split("\n")) {
            if (!line.startsWith("| `") || !line.contains("` is `")) continue;
            HeadServo x = new HeadServo();
            Matcher m = MADE.matcher(line.substring(line.lastIndexOf('|', line.length() - 2)));
            boolean right = true;
            int calls = 0;
            while (m.find()) {
                calls++;
                String got = answer(x, m.group(1), m.group(2));
                if (got.equals(m.group(3))) continue;
                right = false;
                System.out.println(m.group() + ", but it answered " + got);
            }
            made++;
            count("the row " + line, right && calls > 0);
        }
        count("rows of calls are found: " + made, made >= 56);
    }

    private static String answer(HeadServo x, String name, String arguments) throws Exception {
        for (Method m : HeadServo.class.getMethods()) {
            if (!m.getName().equals(name) || m.getDeclaringClass() != HeadServo.class) continue;
            String[] told = arguments.isEmpty() ? new String[0] : arguments.split(", ");
            Object[] values = new Object[told.length];
            for (int i = 0; i < told.length; i++) values[i] = value(told[i]);
            return String.valueOf(m.invoke(x, values));
        }
        return "there is no " + name;
    }

    private static Object value(String told) {
        if (told.equals("true") || told.equals("false")) return Boolean.valueOf(told);
        return told.equals("NONE") ? Integer.valueOf(HeadServo.NONE) : Integer.valueOf(told);
    }

    /** Each call stands at the head of a row, as the face has it, and is made at the row's end. */
    private static void face(String readme) {
        for (Method m : HeadServo.class.getMethods()) {
            if (m.getDeclaringClass() != HeadServo.class || Modifier.isStatic(m.getModifiers())) continue;
            String head = "| `" + m.getReturnType().getName() + " " + m.getName() + "(";
            int from = readme.indexOf(head);
            String row = from < 0 ? "" : readme.substring(from + head.length(), readme.indexOf('\n', from));
            boolean same = row.contains(")` |") && types(m).equals(typesTold(row.substring(0, row.indexOf(')'))));
            count("a row of " + m, same && row.indexOf("`" + m.getName() + "(") > row.indexOf(")` |"));
        }
    }

    private static String types(Method m) {
        StringBuilder b = new StringBuilder();
        for (Class<?> p : m.getParameterTypes()) b.append(p.getName()).append(' ');
        return b.toString();
    }

    private static String typesTold(String parameters) {
        StringBuilder b = new StringBuilder();
        if (parameters.isEmpty()) return "";
        for (String p : parameters.split(", ")) b.append(p, 0, p.indexOf(' ') + 1);
        return b.toString();
    }
}
