/** Gives scripts to a CommandCore and tells every answer that is not the one that is due. */
final class Check {
    private static int wrong = 0;
    private static int asked = 0;
    /** The sentence of the document that is being tested, and how many there were. */
    private static String sentence = "";
    private static int sentences = 0;

    /** What the document promises of an object goes no further. */
    private static final int MOST_CALLS = 512;
    /** A text that is longer is compared by its size and its ends, as each byte is a call. */
    private static final int LONG = 300;

    CommandCore core = new CommandCore();
    private int calls = 0;

    /** Begins the test of a sentence, in the document's own words, with a new object. */
    static Check of(String words) {
        sentence = words;
        sentences++;
        return new Check();
    }

    /** Ends the program; with 1 if an answer was not as due. */
    static void finish() {
        String held = sentences > 0 ? ", of " + sentences + " sentences" : "";
        System.out.println(asked + " answers asked" + held + ", " + wrong + " not as due");
        System.exit(wrong == 0 && asked > 0 ? 0 : 1);
    }

    static void due(String what, Object got, Object want) {
        asked++;
        if (!got.equals(want)) {
            wrong++;
            System.out.println(what + " answered " + show(got) + ", due is " + show(want));
            if (!sentence.isEmpty()) {
                System.out.println("    the sentence: " + sentence);
            }
        }
    }

    private static String show(Object value) {
        return String.valueOf(value).replace("\n", "\\n");
    }

    /** An object as new. */
    Check fresh() {
        core = new CommandCore();
        calls = 0;
        return this;
    }

    /** Counts calls of the object: a test that needs more would ask what is not promised. */
    private void called(int number) {
        calls += number;
        if (calls > MOST_CALLS && calls - number <= MOST_CALLS) {
            due("whether one object is called " + MOST_CALLS + " times at most", false, true);
        }
    }

    /** Writes a text on the tape; its characters are bytes. */
    void tape(String text) {
        int written = core.count(6);
        for (int i = 0; i < text.length(); i += 20) {
            int[] numbers = new int[5];
            for (int k = 0; k < 20; k++) {
                int c = i + k < text.length() ? text.charAt(i + k) & 255 : 0;
                numbers[k / 4] = numbers[k / 4] << 8 | c;
            }
            core.feed(numbers[0], numbers[1], numbers[2], numbers[3], numbers[4]);
            called(1);
        }
        core.end(written + text.length());
        called(2);
    }

    int run(String script) {
        tape(script);
        called(1);
        return core.run();
    }

    String result() {
        return result(0, core.size());
    }

    private String result(int first, int behind) {
        StringBuilder text = new StringBuilder();
        for (int i = first; i < behind; i++) {
            text.append((char) core.result(i));
        }
        called(behind - first + 1);
        return text.toString();
    }

    String out() {
        StringBuilder text = new StringBuilder();
        int size = core.outSize();
        for (int i = 0; i < size; i++) {
            text.append((char) core.out(i));
        }
        called(size + 1);
        return text.toString();
    }

    /** The script ends with a code and a result. */
    Check ends(String script, int code, String result) {
        due("the code of: " + script, run(script), code);
        int size = core.size();
        if (size > LONG && size == result.length()) {
            due("the beginning of the result of: " + script, result(0, LONG / 4), result.substring(0, LONG / 4));
            due("the end of the result of: " + script, result(size - LONG / 4, size), result.substring(size - LONG / 4));
        } else {
            due("the result of: " + script, result(), result);
        }
        return this;
    }

    Check gives(String script, String result) {
        return ends(script, 0, result);
    }

    Check fails(String script, String message) {
        return ends(script, 1, message);
    }

    /** The script meets a LIMIT. */
    Check meets(String script, int limit) {
        return ends(script, -limit, "");
    }

    Check prints(String script, String out) {
        run(script);
        due("OUT of: " + script, out(), out);
        return this;
    }

    int count(int what) {
        called(1);
        return core.count(what);
    }

    Check counts(int what, int number) {
        due("count(" + what + ")", count(what), number);
        return this;
    }

    /** What count(1), count(2) and count(3) answer. */
    Check countsOfRun(int commands, int evaluations, int calls) {
        return counts(1, commands).counts(2, evaluations).counts(3, calls);
    }

    /** WORK grows by so much with the script. */
    Check costs(String script, int work) {
        int before = core.count(0);
        run(script);
        due("WORK of: " + script, core.count(0) - before, work);
        called(2);
        return this;
    }

    static String times(String text, int number) {
        return text.repeat(number);
    }

    /** A word of a script that stands for a text of any bytes. */
    static String quoted(String text) {
        StringBuilder word = new StringBuilder("\"");
        for (int i = 0; i < text.length(); i++) {
            word.append(String.format("\\x%02x", (int) text.charAt(i)));
        }
        return word.append('"').toString();
    }
}
