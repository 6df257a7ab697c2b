/** Section 4 of the document: arguments, options, info, rename and puts. */
public final class CommandTest {
    public static void main(String[] args) {
        wrongArguments();
        options();
        info();
        renaming();
        printing();
        Check.finish();
    }

    private static void wrongArguments() {
        String[] calls = {"set", "set a b c", "incr", "incr a 1 2", "append", "lappend", "proc", "proc a b",
                "proc a b c d", "return 1 2 3 4",
            "break 1", "continue 1", "error", "error a b", "catch", "catch a b c", "eval", "expr", "if", "while",
                    "while 1", "while 1 2 3", "for",
            "for 1 2 3", "for 1 2 3 4 5", "foreach", "foreach a", "foreach a b", "foreach a b c d", "switch",
                    "switch a", "switch a b c", "upvar",
            "upvar a", "uplevel", "lindex", "lindex a", "lindex a 1 2", "llength", "llength a b", "lrange a 1",
                    "lrange a 1 2 3", "lreverse",
            "lreverse a b", "lsearch a", "lsearch a b c", "lsort", "lsort a b", "lsort -integer -decreasing -integer a",
                    "lassign", "join",
            "join a b c", "split", "split a b c", "string", "string length", "string length a b", "string index a",
                    "string range a 1",
            "string equal a", "string compare a b c", "string first a", "string repeat a", "string reverse",
                    "string toupper", "string tolower a b",
            "string trim a b", "array", "array exists", "array size a b", "array names", "array get", "array set a",
                    "array set a b c", "array unset",
            "info", "info exists", "info level 1", "info args", "info body a b", "rename", "rename a", "rename a b c",
                    "puts", "puts a b",
            "puts -nonewline a b", "subst", "subst a b"};
        Check check = new Check();
        for (String call : calls) {
            String name = call.split(" ")[0];
            check.fresh().fails(call, "wrong arguments: " + name);
        }
        check.fresh().gives("unset", "").gives("global", "").gives("list", "").gives("concat", "");
        check.gives("rename set put; rename string text", "").fails("put", "wrong arguments: put")
                .fails("text", "wrong arguments: text");
        check.fails("nothing a b", "no such command: nothing")
                .fails("{a b}", "no such command: a b").fails("Set a 1", "no such command: Set");
    }

    private static void options() {
        Check check = new Check();
        check.fails("string x", "no option: x").fails("string x a b c d", "no option: x")
                .fails("string {} a", "no option: ").fails("string len a", "no option: len");
        check.fails("string {length index} a", "no option: length index")
                .fails("array x", "no option: x").fails("array length a", "no option: length");
        check.fails("info x", "no option: x").fails("info commands", "no option: commands")
                .fails("info { level}", "no option:  level");
    }

    private static void info() {
        Check check = new Check();
        check.gives("set a 1; set m(x) 2; list [info exists a] [info exists m] [info exists m(x)] [info exists m(y)] [info exists a(x)] [info exists n] [info exists n(x)]",
                "1 1 1 0 0 0 0");
        check.counts(5, 2);
        check.gives("unset a m(x); list [info exists a] [info exists m] [info exists m(x)]", "0 1 0");
        check.gives("upvar 0 none link; info exists link", "0")
                .gives("set link 1; list [info exists none] [info exists link]", "1 1");
        check.fails("info args set", "no procedure: set").fails("info body none", "no procedure: none");
        check.gives("proc {p q} {{a 1} {b {c d}} args} {x $y}; list [info args {p q}] [info body {p q}]",
                "{a b args} {x $y}");
        check.gives("proc e {} {}; list [info args e] [info body e] [info level]", "{} {} 0");
    }

    private static void renaming() {
        Check check = new Check();
        check.gives("rename set put; put a 5", "5").fails("set a", "no such command: set").counts(4, 38);
        check.gives("proc p {} {list p}; rename p q; q", "p").fails("p", "no such command: p").counts(4, 39);
        check.fails("rename none x", "no such command: none")
                .fails("rename none {}", "no such command: none")
                .fails("rename q list", "list is there already");
        check.fails("rename q q", "q is there already").fails("rename none list", "no such command: none");
        check.gives("rename q {}", "").counts(4, 38).fails("q", "no such command: q")
                .gives("rename list {}", "").counts(4, 37).fails("list", "no such command: list");
        check.gives("proc {} {} {put b 1}; rename {} named; named", "1").gives("rename put set; set a", "5");
        check.gives("proc list {} {set c 2}; list", "2").counts(4, 39);
    }

    private static void printing() {
        Check check = new Check();
        check.prints("puts a; puts {b c}; puts -nonewline d; puts {}; puts -nonewline; puts -nonewline {}",
                "a\nb c\nd\n-nonewline\n");
        check.gives("puts a", "").fails("puts -nonewlin a", "wrong arguments: puts")
                .fails("puts +nonewline a", "wrong arguments: puts");
        check.prints("proc p {} {puts in; error e}; puts out; p; puts not", "out\nin\n")
                .prints("catch {puts caught; error e}", "caught\n");
        check.prints("puts \"\\x00\\xff\\n\"", "\u0000\u00ff\n\n");
    }
}
