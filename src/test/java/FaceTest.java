/** Promises 1 to 9 at their face: a new object, the tape, run, the result, OUT and the counts. */
public final class FaceTest {
    private static final int ABCD = 0x61626364;

    public static void main(String[] args) {
        newObject();
        feed();
        end();
        run();
        result();
        out();
        count();
        Check.finish();
    }

    private static void newObject() {
        CommandCore core = new CommandCore();
        int[] counts = {0, 0, 0, 0, 38, 0, 0};
        for (int what = 0; what < counts.length; what++) {
            Check.due("a new object's count(" + what + ")", core.count(what), counts[what]);
        }
        Check.due("a new object's size()", core.size(), 0);
        Check.due("a new object's result(0)", core.result(0), -1);
        Check.due("a new object's outSize()", core.outSize(), 0);
        Check.due("a new object's out(0)", core.out(0), -1);
        Check check = new Check();
        String names = "set unset incr append lappend proc return break continue error catch eval expr if while"
                + " for foreach switch upvar uplevel global list lindex llength lrange lreverse lsearch lsort"
                + " lassign concat join split string array info rename puts subst";
        for (String name : names.split(" ")) {
            check.gives("rename " + name + " {}", "").counts(4, 37);
            check.fails(name, "no such command: " + name);
            check.fresh();
        }
        check.fails("info body set", "no procedure: set");
    }

    private static void feed() {
        CommandCore core = new CommandCore();
        Check.due("feed", core.feed(ABCD, 0x01020304, 0xfffefdfc, 0, 0x80000000), 20);
        Check.due("count(6)", core.count(6), 20);
        Check.due("end(0)", core.end(0), 0);
        for (int i = 1; i <= 200; i++) {
            Check.due("feed number " + i, core.feed(0x20202020, 0x20202020, 0x20202020, 0x20202020, 0x20202020),
                    20 * i);
        }
        Check.due("feed over 4000", core.feed(0, 0, 0, 0, 0), -1);
        Check.due("count(6) behind that", core.count(6), 4000);
        Check.due("end(3980)", core.end(3980), 3980);
        Check.due("feed up to 4000", core.feed(ABCD, ABCD, ABCD, ABCD, ABCD), 4000);
        Check.due("end(3981)", core.end(3981), 3981);
        Check.due("feed from 3981", core.feed(ABCD, ABCD, ABCD, ABCD, ABCD), -1);
        Check.due("count(6) behind that", core.count(6), 3981);
        Check.due("run", core.run(), 1);
        Check.due("size", core.size(), "no such command: a".length());
        core = new CommandCore();
        core.feed(0x6c697374, 0x20610020, 0xff20800a, 0x6c697374, 0x20017f62);
        core.end(19);
        Check.due("run of other bytes", core.run(), 0);
        int[] bytes = {1, 127};
        Check.due("size of other bytes", core.size(), bytes.length);
        for (int i = 0; i < bytes.length; i++) {
            Check.due("result(" + i + ")", core.result(i), bytes[i]);
        }
        core.feed(0x6c697374, 0x20610020, 0xff20800a, 0, 0);
        core.end(11);
        Check.due("run of high bytes", core.run(), 0);
        int[] high = {'a', 0, ' ', 255, ' ', 128};
        Check.due("size of high bytes", core.size(), high.length);
        for (int i = 0; i < high.length; i++) {
            Check.due("result(" + i + ")", core.result(i), high[i]);
        }
    }

    private static void end() {
        CommandCore core = new CommandCore();
        Check.due("end(0) of an empty tape", core.end(0), 0);
        Check.due("end(1) of an empty tape", core.end(1), -1);
        core.feed(ABCD, ABCD, ABCD, ABCD, ABCD);
        Check.due("end(21)", core.end(21), -1);
        Check.due("end(-1)", core.end(-1), -1);
        Check.due("end(least)", core.end(Integer.MIN_VALUE), -1);
        Check.due("end(most)", core.end(Integer.MAX_VALUE), -1);
        Check.due("count(6)", core.count(6), 20);
        Check.due("end(20)", core.end(20), 20);
        Check.due("end(7)", core.end(7), 7);
        Check.due("end(8)", core.end(8), -1);
        Check.due("count(6)", core.count(6), 7);
    }

    private static void run() {
        Check check = new Check();
        check.tape("set a 5");
        check.counts(6, 7);
        check.gives("", "5").counts(6, 0);
        check.gives("", "");
        check.gives("set a", "5");
        check.fails("error no", "no").ends("break", 3, "").ends("continue", 4, "");
        check.ends("return -code 77 v", 2, "v");
        check.prints("puts x; puts y", "x\ny\n").prints("set a", "");
        check.prints("puts kept; string repeat x 4001", "kept\n");
        check.meets("set b 7; string repeat x 4001", 2).gives("set b", "7");
        check.meets("proc deep n {deep [incr n]}; deep 0", 4).gives("info level", "0").gives("incr a", "6");
        check.meets("while 1 {}", 1).meets("", 1);
    }

    private static void result() {
        Check check = new Check();
        check.run("set a xyz");
        CommandCore core = check.core;
        Check.due("size", core.size(), 3);
        Check.due("result(-1)", core.result(-1), -1);
        Check.due("result(0)", core.result(0), (int) 'x');
        Check.due("result(2)", core.result(2), (int) 'z');
        Check.due("result(3)", core.result(3), -1);
        Check.due("result(least)", core.result(Integer.MIN_VALUE), -1);
        Check.due("result(most)", core.result(Integer.MAX_VALUE), -1);
        check.tape("not run yet");
        Check.due("size of the latest run", core.size(), 3);
        core.end(0);
        check.run("puts gone");
        Check.due("size of an empty result", core.size(), 0);
        check.run("set a; string repeat x 4001");
        Check.due("size behind a LIMIT", core.size(), 0);
    }

    private static void out() {
        Check check = new Check();
        CommandCore core = check.core;
        check.run("puts -nonewline ab; puts c");
        Check.due("outSize", core.outSize(), 4);
        Check.due("out(-1)", core.out(-1), -1);
        Check.due("out(0)", core.out(0), (int) 'a');
        Check.due("out(3)", core.out(3), 10);
        Check.due("out(4)", core.out(4), -1);
        Check.due("out(least)", core.out(Integer.MIN_VALUE), -1);
        Check.due("out(most)", core.out(Integer.MAX_VALUE), -1);
        check.run("set i 0; while {$i < 3} {puts [string repeat x 3000]; incr i}");
        Check.due("outSize is not held to 4000", core.outSize(), 9003);
        Check.due("out(9002)", core.out(9002), 10);
        check.run("puts \\xff\\0");
        Check.due("out of a high byte", core.out(0), 255);
        Check.due("out of byte 0", core.out(1), 0);
    }

    private static void count() {
        Check check = new Check();
        check.run("set x(1) 2; list $x(1) [list [list]]");
        check.counts(1, 4).counts(2, 3).counts(3, 0).counts(5, 1);
        check.run("proc p {} {list a}; proc q {} {p; p}; q; q");
        check.counts(1, 14 - 2).counts(2, 3).counts(3, 2).counts(4, 40);
        check.run("");
        check.counts(1, 0).counts(2, 1).counts(3, 0).counts(4, 40).counts(5, 1).counts(6, 0);
        check.counts(-1, -1).counts(7, -1).counts(Integer.MAX_VALUE, -1).counts(Integer.MIN_VALUE, -1);
        check.run("rename p {}; rename list {}; upvar 0 y z; unset x; nothing");
        check.counts(4, 38).counts(5, 3).counts(1, 5);
    }
}
