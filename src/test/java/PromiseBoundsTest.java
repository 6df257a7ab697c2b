/** Promises 1 to 9 of the document: each sentence that names a boundary. */
public final class PromiseBoundsTest {
    private static final int[] OUTSIDE = {Integer.MIN_VALUE, Integer.MIN_VALUE + 1, -4000, -2, -1, 4000, 4001, 65536,
            Integer.MAX_VALUE - 1, Integer.MAX_VALUE};

    public static void main(String[] args) {
        newObject();
        feed();
        feedRefused();
        end();
        endRefused();
        run();
        runOnItsTape();
        runMeetsLimits();
        size();
        result();
        outSize();
        out();
        counts();
        countsOfTheLatestRun();
        countsOfWhatThereIs();
        countRefused();
        objectsApart();
        Check.finish();
    }

    private static void newObject() {
        Check check = Check.of("The commands told above, no procedures, frame 0 without names; an empty tape, empty OUT, an empty result.");
        check.counts(0, 0).countsOfRun(0, 0, 0).counts(4, 38).counts(5, 0).counts(6, 0);
        CommandCore core = check.core;
        Check.due("size()", core.size(), 0);
        Check.due("result(0)", core.result(0), -1);
        Check.due("outSize()", core.outSize(), 0);
        Check.due("out(0)", core.out(0), -1);
        Check.due("end(0)", core.end(0), 0);
        Check.due("end(1)", core.end(1), -1);
        check.gives("", "").counts(0, 5).countsOfRun(0, 1, 0);
        for (String name : ("set unset incr append lappend proc return break continue error catch eval expr if while for foreach switch upvar uplevel global list lindex llength lrange lreverse"
                + " lsearch lsort lassign concat join split string array info rename puts subst").split(" ")) {
            check.fails("info body " + name, "no procedure: " + name)
                    .gives("rename " + name + " " + name + "2;" + (name.equals("rename") ? "rename2" : "rename") + " " + name + "2 " + name, "")
                    .fresh();
        }
    }

    private static int feed(CommandCore core, int number) {
        return core.feed(number, number, number, number, number);
    }

    private static void feed() {
        Check check = Check.of("Twenty bytes more of the tape, the highest of each number first: how many it has.");
        CommandCore core = check.core;
        Check.due("feed", core.feed(0x73657420, 0x78207b61, 0x00ff807f, 0x01c8fe09, 0x0a627d20), 20);
        Check.due("feed again", core.feed(0x3b6c6973, 0x74202478, 0x20202020, 0x20202020, 0x20202020), 40);
        check.counts(6, 40);
        core.end(20);
        Check.due("run", core.run(), 0);
        Check.due("the bytes as they were fed", check.result(), "a\u0000\u00ff\u0080\u007f\u0001\u00c8\u00fe\t\nb");
        Check.due("feed behind a run", feed(core, -1), 20);
        core.end(3);
        Check.due("feed behind end", feed(core, 0x80000000), 23);
        core.end(5);
        Check.due("run of high bytes", core.run(), 1);
        Check.due("their message", check.result(), "no such command: \u00ff\u00ff\u00ff\u0080\u0000");
    }

    private static void feedRefused() {
        Check check = Check.of("-1, and nothing is done: they would be more than 4000.");
        CommandCore core = check.core;
        for (int i = 1; i <= 200; i++) {
            Check.due("feed number " + i, feed(core, 0x20202020), 20 * i);
        }
        Check.due("feed number 201", feed(core, 0x61616161), -1);
        Check.due("feed once more", feed(core, 0x61616161), -1);
        check.counts(6, 4000);
        Check.due("end(3980)", core.end(3980), 3980);
        Check.due("feed up to 4000", core.feed(0x6c697374, 0x20612062, 0x20202020, 0x20202020, 0x20202020), 4000);
        Check.due("feed beyond", feed(core, 0x61616161), -1);
        Check.due("end(3981)", core.end(3981), 3981);
        Check.due("feed from 3981", feed(core, 0x61616161), -1);
        check.counts(6, 3981);
        Check.due("end(3980)", core.end(3980), 3980);
        Check.due("feed from 3980", core.feed(0x6c697374, 0x20612062, 0x20202020, 0x20202020, 0x20202020), 4000);
        Check.due("run of 4000 bytes", core.run(), 0);
        Check.due("its result", check.result(), "a b");
        Check.due("feed behind it", feed(core, 0x20202020), 20);
    }

    private static void end() {
        Check check = Check.of("The tape keeps its first n bytes: n.");
        CommandCore core = check.core;
        check.tape("list abcdefghijklmno");
        Check.due("end(20)", core.end(20), 20);
        Check.due("end(8)", core.end(8), 8);
        Check.due("end(8) again", core.end(8), 8);
        check.counts(6, 8);
        Check.due("run", core.run(), 0);
        Check.due("the first eight bytes", check.result(), "abc");
        check.tape("list x");
        Check.due("end(0)", core.end(0), 0);
        check.counts(6, 0);
        Check.due("run of nothing", core.run(), 0);
        Check.due("its result", check.result(), "");
    }

    private static void endRefused() {
        Check check = Check.of("-1, and nothing is done: it has not so many, or n is below 0.");
        CommandCore core = check.core;
        Check.due("end(1) of an empty tape", core.end(1), -1);
        check.tape("list abc");
        for (int n : OUTSIDE) {
            Check.due("end(" + n + ")", core.end(n), -1);
        }
        Check.due("end(9)", core.end(9), -1);
        check.counts(6, 8);
        Check.due("end(8)", core.end(8), 8);
        Check.due("end(6)", core.end(6), 6);
        Check.due("end(7), as it was cut", core.end(7), -1);
        Check.due("run", core.run(), 0);
        Check.due("what is there", check.result(), "a");
    }

    private static void run() {
        Check check = Check.of("The tape (which is empty then) is evaluated as a script in frame 0 (1 in evaluation); OUT is empty at first: the code with which it ends");
        check.tape("set a 1");
        check.counts(6, 7);
        Check.due("run", check.core.run(), 0);
        check.counts(6, 0).countsOfRun(1, 1, 0);
        Check.due("run of an empty tape", check.core.run(), 0);
        Check.due("its result", check.result(), "");
        check.gives("info level", "0").gives("set a", "1").ends("error e", 1, "e")
                .ends("return r", 2, "r").ends("break", 3, "").ends("continue", 4, "")
                .ends("proc p {} {return -code 999 v};p", 999, "v")
                .ends("proc p {} {return -code 5 v};p", 5, "v");
        check.ends("puts a;puts b;error c", 1, "c");
        Check.due("OUT", check.out(), "a\nb\n");
        check.ends("return -code 3 d", 2, "d");
        Check.due("OUT of the next", check.out(), "");
    }

    /** The script is over before the tape is fed again, and does not change with it. */
    private static void runOnItsTape() {
        Check check = Check.of("The tape (which is empty then) is evaluated as a script in frame 0 (1 in evaluation)");
        check.gives("proc p {} {list first};set v {kept text}", "kept text")
                .gives("proc q {} {list other};set w {more to tell}", "more to tell")
                .gives("list [p] [q] $v $w", "first other {kept text} {more to tell}");
    }

    private static void runMeetsLimits() {
        Check check = Check.of("-1, -2, -3, -4 a LIMIT (the result is empty then; all else stays as it is, procedures that are open are over).");
        check.gives("set i 0;while {$i<95} {set v$i 1;incr i};proc p {} {puts in;set ::x 1;string repeat a 4001};proc q {} p;proc r {} {r}", "")
                .counts(5, 96);
        check.ends("puts out;set a 1;q", -2, "").countsOfRun(7, 3, 2);
        Check.due("OUT of a run that met a LIMIT", check.out(), "out\nin\n");
        check.gives("list $a [info level]", "1 0").ends("set b 2;set c 3;set d 4;set e 5", -3, "")
                .counts(5, 100).counts(1, 4).gives("list $b $c $d", "2 3 4").ends("r", -4, "")
                .countsOfRun(41, 41, 40).gives("info level", "0")
                .gives("proc r {} {list over};r", "over").countsOfRun(3, 2, 1);
        check.ends("while 1 {}", -1, "").ends("", -1, "");
        check.tape("set z 9");
        Check.due("run without WORK left", check.core.run(), -1);
        check.counts(6, 0).counts(5, 100);
    }

    private static void size() {
        Check check = Check.of("How many bytes the result of the latest run has.");
        check.run("set a xyz");
        Check.due("size()", check.core.size(), 3);
        check.tape("set a longer");
        Check.due("size() behind feed", check.core.size(), 3);
        check.core.run();
        Check.due("size() behind the next run", check.core.size(), 6);
        check.run("list");
        Check.due("size() of an empty result", check.core.size(), 0);
        check.run("error abc");
        Check.due("size() of a message", check.core.size(), 3);
        check.run("string repeat a 4000");
        Check.due("size() of the longest", check.core.size(), 4000);
        Check.due("result(3999)", check.core.result(3999), (int) 'a');
        Check.due("result(4000)", check.core.result(4000), -1);
        check.run("string repeat a 4001");
        Check.due("size() behind a LIMIT", check.core.size(), 0);
        Check.due("result(0) behind a LIMIT", check.core.result(0), -1);
    }

    private static void result() {
        Check check = Check.of("Byte i of it; -1 if there is none.");
        check.run("list \\x00\\xff\\x80a");
        int[] bytes = {0, 255, 128, 'a'};
        for (int i = 0; i < bytes.length; i++) {
            Check.due("result(" + i + ")", check.core.result(i), bytes[i]);
        }
        Check.due("result(4)", check.core.result(4), -1);
        for (int i : OUTSIDE) {
            Check.due("result(" + i + ")", check.core.result(i), -1);
        }
        check.run("");
        Check.due("result(0) of an empty result", check.core.result(0), -1);
    }

    private static void outSize() {
        Check check = Check.of("How many bytes OUT has.");
        check.run("puts ab;puts -nonewline c");
        Check.due("outSize()", check.core.outSize(), 4);
        check.tape("puts d");
        Check.due("outSize() behind feed", check.core.outSize(), 4);
        check.core.run();
        Check.due("outSize() behind the next run", check.core.outSize(), 2);
        check.run("list");
        Check.due("outSize() of a run without puts", check.core.outSize(), 0);
        check.run("set a [string repeat a 3999];puts $a;puts $a;puts -nonewline $a");
        Check.due("outSize() of more than a text", check.core.outSize(), 11999);
        Check.due("out(11998)", check.core.out(11998), (int) 'a');
        Check.due("out(11999)", check.core.out(11999), -1);
    }

    private static void out() {
        Check check = Check.of("Byte i of OUT; -1 if there is none.");
        check.run("puts \\x00\\xff\\x80");
        int[] bytes = {0, 255, 128, 10};
        for (int i = 0; i < bytes.length; i++) {
            Check.due("out(" + i + ")", check.core.out(i), bytes[i]);
        }
        Check.due("out(4)", check.core.out(4), -1);
        for (int i : OUTSIDE) {
            Check.due("out(" + i + ")", check.core.out(i), -1);
        }
        check.run("list a");
        Check.due("out(0) of a run without puts", check.core.out(0), -1);
    }

    private static void counts() {
        Check check = Check.of("what = 0 WORK");
        check.run("list a");
        check.counts(0, 5 + 6 + 4 + 1 + 7 + 1);
        check.run("");
        check.counts(0, 29).tape("list");
        check.counts(0, 29).core.end(0);
        check.run("string repeat a 4001");
        check.counts(0, 29 + 5 + 20 + 6 + 6 + 1 + 4 + 9);
    }

    private static void countsOfTheLatestRun() {
        Check check = Check.of("of the latest run: 1 commands run, 2 the most scripts, expressions and KEYS that were in evaluation, 3 the most procedure calls that were open");
        check.gives("list", "").countsOfRun(1, 1, 0).gives("list;list;{*}{};#", "")
                .countsOfRun(2, 1, 0).gives("", "").countsOfRun(0, 1, 0)
                .fails("none", "no such command: none").countsOfRun(1, 1, 0)
                .fails("set", "wrong arguments: set").countsOfRun(1, 1, 0)
                .fails("list {", "missing brace").countsOfRun(0, 1, 0)
                .fails("list $none", "no variable none").countsOfRun(0, 1, 0);
        check.gives("set m(1) 1;list [list $m([list 1])]", "1").countsOfRun(4, 4, 0)
                .gives("expr {1+[expr {2}]}", "3").countsOfRun(2, 4, 0).gives("subst {[list]}", "")
                .countsOfRun(2, 2, 0).gives("list [list];list [list]", "{}").countsOfRun(4, 2, 0);
        check.gives("proc p {} {};proc q {} {p;p};p;q;p", "").countsOfRun(7, 3, 2).gives("p;p", "")
                .countsOfRun(2, 2, 1).gives("catch {proc s {} {error e};s};catch s", "1")
                .countsOfRun(7, 3, 1).tape("list");
        check.countsOfRun(7, 3, 1);
    }

    private static void countsOfWhatThereIs() {
        Check check = Check.of("4 commands that there are; 5 names that frame 0 knows; 6 bytes of the tape.");
        check.counts(4, 38).gives("proc p {} {};proc q {} {}", "").counts(4, 40)
                .gives("proc p {} {list}", "").counts(4, 40).gives("rename p {};rename set {}", "")
                .counts(4, 38).gives("rename q r", "").counts(4, 38).fresh();
        check.counts(5, 0).gives("set a 1;set m(1) 1;set m(2) 1", "1").counts(5, 2)
                .gives("unset a m", "").counts(5, 2).gives("proc p x {set y 1;global z};p 1", "")
                .counts(5, 3).gives("upvar 0 b c", "").counts(5, 5)
                .fails("set none", "no variable none").counts(5, 5);
        check.counts(6, 0).tape("abc");
        check.counts(6, 3).core.end(1);
        check.counts(6, 1).core.run();
        check.counts(6, 0);
    }

    private static void countRefused() {
        Check check = Check.of("-1: no such what.");
        check.run("set a 1");
        for (int what : OUTSIDE) {
            check.counts(what, -1);
        }
        check.counts(7, -1).counts(8, -1).counts(6, 0).counts(0, 5 + 7 + 3 + 1 + 1 + 8 + 1);
    }

    /** No answer depends on another object. */
    private static void objectsApart() {
        Check check = Check.of("The commands told above, no procedures, frame 0 without names; an empty tape, empty OUT, an empty result.");
        Check other = new Check();
        check.gives("set a 1;proc p {} {};puts x;rename list {}", "");
        check.tape("abc");
        other.counts(4, 38).counts(5, 0).counts(6, 0).counts(0, 0).fails("p", "no such command: p").gives("list a",
                "a").gives("info exists a", "0");
        check.counts(4, 38).counts(5, 1).counts(6, 3);
    }
}
