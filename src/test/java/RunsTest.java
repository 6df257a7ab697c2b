import java.nio.file.Files;
import java.nio.file.Path;
import java.util.List;

/**
 * Random runs whose answers were given by a second program in another form (trees, recursion). Its
 * author is that of the class, so that it finds slips, not wrong readings of the document.
 */
public final class RunsTest {
    public static void main(String[] args) throws Exception {
        List<String> lines = Files.readAllLines(Path.of("src/test/resources/runs.txt"));
        Check check = new Check();
        String script = "";
        for (String line : lines) {
            int blank = line.indexOf(' ');
            String kind = blank < 0 ? line : line.substring(0, blank);
            String told = blank < 0 ? "" : line.substring(blank + 1);
            switch (kind) {
                case "#":
                    break;
                case "new":
                    check = new Check();
                    break;
                case "script":
                    script = bytes(told);
                    break;
                case "code":
                    Check.due("the code of: " + script, check.run(script), Integer.parseInt(told));
                    break;
                case "result":
                    Check.due("the result of: " + script, check.result(), bytes(told));
                    break;
                case "out":
                    Check.due("OUT of: " + script, check.out(), bytes(told));
                    break;
                case "counts":
                    counts(check, script, told.split(" "));
                    break;
                default:
                    Check.due("a line of runs.txt", line, "one that begins with a word of these");
                    break;
            }
        }
        Check.finish();
    }

    private static void counts(Check check, String script, String[] told) {
        for (int what = 0; what < told.length; what++) {
            Check.due("count(" + what + ") behind: " + script, check.count(what), Integer.parseInt(told[what]));
        }
    }

    /** The text that a line stands for; its characters are bytes. */
    private static String bytes(String line) {
        StringBuilder text = new StringBuilder();
        for (int i = 0; i < line.length(); i++) {
            char c = line.charAt(i);
            if (c != '\\') {
                text.append(c);
            } else if (line.charAt(i + 1) == 'x') {
                text.append((char) Integer.parseInt(line.substring(i + 2, i + 4), 16));
                i += 3;
            } else {
                text.append(line.charAt(i + 1) == 'n' ? '\n' : '\\');
                i++;
            }
        }
        return text.toString();
    }
}
