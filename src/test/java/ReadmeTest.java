import java.io.ByteArrayOutputStream;
import java.io.PrintStream;
import java.net.URL;
import java.net.URLClassLoader;
import java.nio.file.Files;
import java.nio.file.Path;
import java.util.ArrayList;
import java.util.List;
import java.util.TreeSet;
import java.util.regex.Matcher;
import java.util.regex.Pattern;
import java.util.spi.ToolProvider;

/** What README.md shows is read from the file itself, done, and compared with what it says. */
public final class ReadmeTest {
    private static final Pattern BLOCK = Pattern.compile("(?ms)^```(\\w+)\n(.*?)^```$");
    private static final Pattern CALL = Pattern.compile("core\\.(\\w+)\\(([^)]*)\\);\\s*//\\s*(-?\\d+)\\b.*");
    private static final Pattern ROW =
            Pattern.compile("\\| `([^`]+)` \\| (-?\\d+) \\| (?:`([^`]+)` )?\\| (?:`([^`]+)` )?\\|.*");

    public static void main(String[] args) throws Exception {
        String readme = Files.readString(Path.of("README.md"));
        program(readme);
        calls(readme);
        runs(readme);
        classes(readme);
        tests(readme);
        Check.finish();
    }

    /** The blocks of a kind, in their order. */
    private static List<String> blocks(String readme, String kind) {
        List<String> found = new ArrayList<>();
        Matcher block = BLOCK.matcher(readme);
        while (block.find()) {
            if (block.group(1).equals(kind)) {
                found.add(block.group(2));
            }
        }
        return found;
    }

    private static String blockWith(String readme, String kind, String beginning) {
        for (String block : blocks(readme, kind)) {
            if (block.startsWith(beginning)) {
                return block;
            }
        }
        Check.due("whether README.md has a block that begins with " + beginning, false, true);
        return "";
    }

    private static void program(String readme) throws Exception {
        String program = blockWith(readme, "java", "public final class Example");
        Path directory = Files.createTempDirectory("readme");
        Path file = directory.resolve("Example.java");
        Files.writeString(file, program);
        int compiled = ToolProvider.findFirst("javac").orElseThrow().run(System.out, System.out,
                "-cp", System.getProperty("java.class.path"), "-d", directory.toString(), file.toString());
        Check.due("javac of README.md's program", compiled, 0);
        if (compiled == 0) {
            Check.due("what README.md's program prints", printed(directory), blockWith(readme, "text", "code 0"));
        }
        try (java.util.stream.Stream<Path> made = Files.list(directory)) {
            made.forEach(path -> path.toFile().delete());
        }
        Files.delete(directory);
    }

    private static String printed(Path directory) throws Exception {
        ByteArrayOutputStream bytes = new ByteArrayOutputStream();
        PrintStream before = System.out;
        try (URLClassLoader loader = new URLClassLoader(new URL[] {directory.toUri().toURL()})) {
            System.setOut(new PrintStream(bytes, true, "ISO-8859-1"));
            loader.loadClass("Example").getMethod("main", String[].class).invoke(null, (Object) new String[0]);
        } finally {
            System.setOut(before);
        }
        return bytes.toString("ISO-8859-1").replace(System.lineSeparator(), "\n");
    }

    private static void calls(String readme) throws Exception {
        CommandCore core = new CommandCore();
        TreeSet<String> named = new TreeSet<>();
        for (String line : blockWith(readme, "java", "CommandCore core").split("\n")) {
            Matcher call = CALL.matcher(line);
            if (call.matches()) {
                Check.due("README.md: " + line, answer(core, call.group(1), call.group(2)),
                        Integer.parseInt(call.group(3)));
                named.add(call.group(1));
            } else {
                Check.due("a line of README.md's calls", line, "CommandCore core = new CommandCore();");
            }
        }
        Check.due("the methods that README.md shows", named.toString(),
                "[count, end, feed, out, outSize, result, run, size]");
    }

    private static Object answer(CommandCore core, String method, String told) throws Exception {
        String[] numbers = told.isEmpty() ? new String[0] : told.split(",");
        Class<?>[] types = new Class<?>[numbers.length];
        Object[] values = new Object[numbers.length];
        for (int i = 0; i < numbers.length; i++) {
            types[i] = int.class;
            values[i] = Long.decode(numbers[i].trim()).intValue();
        }
        return CommandCore.class.getMethod(method, types).invoke(core, values);
    }

    private static void runs(String readme) {
        TreeSet<Integer> codes = new TreeSet<>();
        for (String line : readme.split("\n")) {
            Matcher row = ROW.matcher(line);
            if (row.matches()) {
                int code = Integer.parseInt(row.group(2));
                Check check = new Check();
                check.ends(row.group(1), code, unescaped(row.group(3)));
                Check.due("OUT of: " + row.group(1), check.out(), unescaped(row.group(4)));
                codes.add(code);
            }
        }
        Check.due("the codes that README.md shows", codes.toString(), "[-4, -3, -2, -1, 0, 1, 2, 3, 4, 77]");
    }

    private static String unescaped(String text) {
        return text == null ? "" : text.replace("\\n", "\n");
    }

    private static void classes(String readme) {
        TreeSet<String> there = new TreeSet<>();
        for (Class<?> inside : CommandCore.class.getDeclaredClasses()) {
            there.add(inside.getSimpleName());
        }
        String section = readme.substring(readme.indexOf("## How it is built"), readme.indexOf("## Tests"));
        TreeSet<String> told = new TreeSet<>();
        for (String line : section.split("\n")) {
            Matcher name = Pattern.compile("`(\\w+)`").matcher(line.startsWith("| `") ? line.split("\\|")[1] : "");
            while (name.find()) {
                told.add(name.group(1));
            }
        }
        Check.due("the classes that README.md tells", told, there);
    }

    private static void tests(String readme) throws Exception {
        TreeSet<String> told = new TreeSet<>();
        Matcher name = Pattern.compile("`(\\w+Test)`").matcher(readme);
        while (name.find()) {
            told.add(name.group(1) + ".java");
        }
        TreeSet<String> there = new TreeSet<>();
        try (java.util.stream.Stream<Path> files = Files.list(Path.of("src/test/java"))) {
            files.map(path -> path.getFileName().toString())
                    .filter(file -> file.endsWith("Test.java") && !file.endsWith("BoundsTest.java"))
                    .forEach(there::add);
        }
        Check.due("the tests that README.md tells", told, there);
        Check.due("whether .ci/run can be run", Files.isExecutable(Path.of(".ci/run")), true);
    }
}
