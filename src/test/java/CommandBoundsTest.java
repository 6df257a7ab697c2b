/** Section 4 of the document, from set to global: each sentence that names a boundary. */
public final class CommandBoundsTest {
    public static void main(String[] args) {
        names();
        numbersOfArguments();
        emptyResults();
        setAndUnset();
        incr();
        append();
        lappend();
        proc();
        parameters();
        callsOfProcedures();
        codesOfProcedures();
        returns();
        codesByName();
        breakContinueError();
        catching();
        evalAndExpr();
        ifWordByWord();
        ifLacksAWord();
        loops();
        forLoops();
        foreachPairs();
        foreachRounds();
        switches();
        switchBodies();
        upvar();
        uplevel();
        global();
        Check.finish();
    }

    private static void names() {
        Check check = Check.of("The first word names it: \"no such command: NAME\".");
        check.fails("none", "no such command: none").fails("none a {b c}", "no such command: none")
                .fails("SET a 1", "no such command: SET")
                .fails("{set } a 1", "no such command: set ").fails("{} a", "no such command: ");
        check.gives("s[list e]t a 1", "1").gives("set c set;$c b 2", "2")
                .fails("sets a", "no such command: sets").fails("se a", "no such command: se")
                .gives("{*}{set a} 3", "3");
    }

    /** With so many arguments it is wrong, with others it is not (whatever else it ends with). */
    private static void takes(String name, int least, int most) {
        for (int number = 0; number <= Math.max(least, most) + 2 && number < 9; number++) {
            boolean right = number >= least && (most < 0 || number <= most);
            Check check = new Check();
            check.run(name + Check.times(" 0", number));
            Check.due(name + " with " + number + " arguments is right",
                    !check.result().equals("wrong arguments: " + name), right);
        }
    }

    private static void numbersOfArguments() {
        Check.of("Arguments in < > may be left out; .. : any number more. With others: \"wrong arguments: NAME\" (NAME the first word).");
        Object[][] rows = {{"set", 1, 2}, {"unset", 0, -1}, {"incr", 1, 2}, {"append", 1, -1}, {"lappend", 1, -1},
                {"proc", 3, 3}, {"break", 0, 0}, {"continue", 0, 0}, {"error", 1, 1},
                {"catch", 1, 2}, {"eval", 1, -1}, {"expr", 1, -1}, {"while", 2, 2}, {"for", 4, 4}, {"switch", 2, 2},
                {"upvar", 2, -1}, {"uplevel", 1, -1}, {"global", 0, -1}, {"list", 0, -1},
                {"lindex", 2, 2}, {"llength", 1, 1}, {"lrange", 3, 3}, {"lreverse", 1, 1}, {"lsearch", 2, 2}, {"lassign", 1,
                -1}, {"concat", 0, -1}, {"join", 1, 2}, {"split", 1, 2},
                {"rename", 2, 2}, {"subst", 1, 1}};
        for (Object[] row : rows) {
            takes((String) row[0], (Integer) row[1], (Integer) row[2]);
        }
        Check check = new Check();
        check.gives("proc p {a {b 1}} {list $a $b}", "").fails("p", "wrong arguments: p")
                .gives("p 1", "1 1").gives("p 1 2", "1 2").fails("p 1 2 3", "wrong arguments: p");
        check.gives("rename set put;rename p q", "").fails("put", "wrong arguments: put")
                .fails("q", "wrong arguments: q").fails("put a b c", "wrong arguments: put");
    }

    private static void emptyResults() {
        Check check = Check.of("Results are empty where none is told.");
        for (String script : new String[] {"unset a", "proc p {} {}", "while {[incr i]<3} {list b}",
                "for {set i 0} {$i<2} {incr i} {list b}", "foreach x {1 2} {list $x}", "upvar 0 c d", "global a",
                "rename p q", "puts a", "array set m {k v}", "array unset m", "while 1 break",
                "foreach x {1 2} continue", "unset", "global"}) {
            check.gives("set a 1;" + script, "");
        }
        check.ends("list a;break", 3, "").ends("list a;continue", 4, "").ends("list a;return", 2, "");
    }

    private static void setAndUnset() {
        Check check = Check.of("set name <value>: written, if there is one; the value.");
        check.gives("set a {b c}", "b c").gives("set a", "b c").gives("set a {}", "")
                .gives("set a", "").fails("set b", "no variable b")
                .gives("set m(x) 1;set m(x)", "1").fails("set m", "m is an array")
                .fails("set m 1", "m is an array");

        check = Check.of("unset ..: names, one behind the other.");
        check.gives("set a 1;set b 2;set m(x) 3;unset a m(x) b", "")
                .gives("list [info exists a] [info exists b] [array size m]", "0 0 0")
                .gives("unset", "")
                .gives("set a 1;set c 3;catch {unset a none c} e;list $e [info exists a] $c", "{no variable none} 0 3");
        check.fails("unset c c", "no variable c").gives("info exists c", "0");
    }

    private static void incr() {
        Check check = Check.of("incr name <by>: the value, a WHOLE (0, if it, or an element's array, is not known or UNSET; else READ)");
        check.gives("incr a", "1").gives("incr m(x)", "1").gives("incr m(y) 5", "5")
                .gives("unset a m(x);list [incr a] [incr m(x)]", "1 1")
                .gives("unset m;incr m(z) -1", "-1").fails("incr m", "m is an array")
                .fails("incr a(x)", "a is no array").gives("set a 1", "1");
        check.fails("set t x;incr t", "no whole: x").gives("set t", "x").fails("set t {};incr t", "no whole: ");

        check.fresh().gives("set m(k) 5;incr m(k)", "6").gives("upvar 0 m(k) l;incr l 4", "10")
                .gives("incr m(k) -1", "9");

        check = Check.of("by by more (1; a WHOLE, looked at behind the value), is written; that.");
        check.gives("set a 5;incr a", "6").gives("incr a -7", "-1").gives("incr a 0", "-1")
                .gives("set a", "-1").gives("incr a { 0x10 }", "15")
                .fails("incr a b", "no whole: b").gives("set a", "15")
                .fails("set t x;incr t y", "no whole: x").fails("incr m(k) y", "no whole: y")
                .gives("array exists m", "0").counts(5, 2);
    }

    private static void append() {
        Check check = Check.of("append name ..: without texts READ; else the value (empty, likewise) and the texts behind it are written; the value.");
        check.gives("set m(k) a;append m(k) b;append m(k) c", "abc").gives("lappend m(k) d", "abc d")
                .gives("lappend m(k) e", "abc d e").gives("append m(k)", "abc d e").fresh();
        check.fails("append a", "no variable a").counts(5, 0)
                .fails("append m(x)", "no variable m(x)").gives("append a b", "b")
                .gives("append a", "b").gives("append a {} c {d e}", "bcd e")
                .gives("set a", "bcd e").gives("append m(x) {}", "").gives("append m(x)", "");
        check.fails("append m(y)", "no element m(y)").fails("append m", "m is an array")
                .fails("append m z", "m is an array").fails("append a(x) y", "a is no array")
                .gives("unset a;append a x", "x").gives("append e {}", "")
                .gives("info exists e", "1").gives("set s x;append s $s $s", "xxx");
    }

    private static void lappend() {
        Check check = Check.of("lappend name ..: the value (empty, likewise; a list) with these elements more, made a list, is written (also without any); the value.");
        check.gives("lappend a", "").gives("info exists a", "1")
                .gives("lappend a {} {b c} d", "{} {b c} d").gives("set a", "{} {b c} d")
                .gives("set b \" x\\t\\{y z\\} \\\"w v\\\" \";lappend b", "x {y z} {w v}")
                .gives("set b", "x {y z} {w v}");
        check.gives("lappend m(k) 1 2", "1 2").gives("unset m(k);lappend m(k) 3", "3")
                .fails("lappend m x", "m is an array").fails("lappend a(k) x", "a is no array")
                .fails("set t \\{;lappend t x", "no list").gives("set t", "{")
                .fails("set t \"{a}b\";lappend t", "no list")
                .gives("set l a;lappend l $l $l", "a a a");
        check.gives("set h {#a b};lappend h #c", "{#a} b {#c}")
                .gives("set h \"a\\\\\\{b \\\\x41\";lappend h", "a\\{b A");
    }

    private static void proc() {
        Check check = Check.of("proc name params body: a procedure, in place of a command of this name.");
        check.gives("proc p {} {list 1};p", "1").counts(4, 39).gives("proc p {} {list 2};p", "2")
                .counts(4, 39).gives("proc lindex {} {list 3};lindex", "3").counts(4, 39)
                .gives("proc {} {} {list 4};{}", "4").gives("proc {a b} x {set x};{a b} 5", "5")
                .counts(4, 41)
                .gives("proc p {} {proc p {} {list new};list old};list [p] [p]", "old new");

        check = Check.of("params is a list, each element a list of a name, or a name and a value; \"no parameters: TEXT\" else (TEXT: that element; also if it is no list), and for a name that is split or empty.");
        check.fails("proc q \\{ {}", "no list").fails("q", "no such command: q")
                .fails("proc q {{}} {}", "no parameters: ")
                .fails("proc q {a {b c d}} {}", "no parameters: b c d")
                .fails("proc q {a { }} {}", "no parameters:  ")
                .fails("proc q {a m(1) {b c d}} {}", "no parameters: m(1)");
        check.fails("proc q {{m(1) 2}} {}", "no parameters: m(1) 2")
                .fails("proc q {{{} 2}} {}", "no parameters: {} 2")
                .fails("proc q {a \\{} {}", "no parameters: {")
                .fails("proc q \"a \\\\\\{b \\\\\\{\" {}", "no parameters: {b")
                .fails("proc q {()} {}", "no parameters: ()").gives("proc p {} {list old}", "")
                .fails("proc p {{}} {}", "no parameters: ").gives("p", "old");
        check.gives("proc q {} {list ok};q", "ok").gives("proc q {{a {}}} {set a};q", "")
                .gives("proc q {{a 1}} {set a};q", "1")
                .gives("proc q {m( )m m(1)x} {};info args q", "m( )m m(1)x")
                .gives("proc q { { a  1 } } {set a};q", "1")
                .gives("proc q {a a} {set a};q 1 2", "2");
    }

    private static void parameters() {
        Check check = Check.of("params get the words one by one; where there are none left one with a value has that");
        check.gives("proc p {a {b B} {c C}} {list $a $b $c};list [p 1] [p 1 2] [p 1 2 3]", "{1 B C} {1 2 C} {1 2 3}")
                .fails("p", "wrong arguments: p").fails("p 1 2 3 4", "wrong arguments: p")
                .gives("p {} {} {}", "{} {} {}").gives("proc q {{a A} b} {list $a $b};q 1 2", "1 2")
                .fails("q 1", "wrong arguments: q").fails("q", "wrong arguments: q");

        check = Check.of("the last one, if it is args without a value, gets the list of all that are left");
        check.gives("proc p {a args} {list $a $args};list [p 1] [p 1 2] [p 1 {2 3} {}]", "{1 {}} {1 2} {1 {{2 3} {}}}")
                .fails("p", "wrong arguments: p")
                .gives("proc q args {llength $args};list [q] [q 1 2 3]", "0 3")
                .gives("proc r {args a} {list $args $a};r 1 2", "1 2")
                .fails("r 1 2 3", "wrong arguments: r").fails("r 1", "wrong arguments: r");
        check.gives("proc s {{args d}} {set args};list [s] [s 1]", "d 1")
                .fails("s 1 2", "wrong arguments: s")
                .gives("proc t {{a 1} args} {list $a $args};list [t] [t 2 3 4]", "{1 {}} {2 {3 4}}")
                .fails("proc u arg {};u 1 2", "wrong arguments: u")
                .fails("proc u Args {};u 1 2", "wrong arguments: u");
    }

    private static void callsOfProcedures() {
        Check check = Check.of("\"wrong arguments: NAME\", if a param has none, or words are left.");
        check.gives("proc p {} {}", "").gives("p", "").fails("p 1", "wrong arguments: p")
                .counts(3, 0).gives("proc q a {}", "").fails("q", "wrong arguments: q")
                .gives("q 1", "").counts(3, 1).fails("q 1 2", "wrong arguments: q")
                .gives("rename q {r s}", "").fails("{r s}", "wrong arguments: r s");

        check = Check.of("Then (4) the call is open, its new frame gets these, and its body is evaluated there: it ends with 0 and the body's result");
        check.gives("set a 0;proc p a {incr a;list $a [info level]};p 5", "6 1")
                .countsOfRun(6, 3, 1).gives("set a", "0").gives("proc p {} {};p", "")
                .gives("proc p {} {list x;#};p", "x")
                .gives("proc p m {upvar 0 m n;set n 2;set m};p 1", "2");
    }

    private static void codesOfProcedures() {
        Check check = Check.of("code 2: with the code and result that return told (where that is 2, it tells 0 then)");
        check.gives("proc p c {return -code $c v;list no};p 0", "v").ends("p 1", 1, "v")
                .ends("p 2", 2, "v").ends("p 3", 3, "v").ends("p 4", 4, "v").ends("p 5", 5, "v")
                .gives("proc q {} {p 2;list no};q", "v").gives("proc r {} {return w};r", "w")
                .gives("proc s {} {return};s", "");
        check.gives("proc t {} {catch {p 2} x;list [catch {p 2}] $x};t", "2 v")
                .ends("proc u {} {p 2};proc v {} {u;list on};v", 0, "on")
                .gives("catch {return -code 3 z};catch {proc w {} {return z};w}", "0")
                .gives("proc x {} {eval {return -code 7 y}};catch x", "7");

        check = Check.of("3: error \"break without loop\", 4: \"continue without loop\"; others as they are.");
        check.fails("proc p {} break;p", "break without loop")
                .fails("proc q {} continue;q", "continue without loop")
                .fails("proc r {} {error e};r", "e")
                .ends("proc s {} {t};proc t {} {return -code 5 v};s", 5, "v").ends("s", 5, "v")
                .fails("proc u {} {return -code 3};proc v {} {u};v", "break without loop")
                .gives("proc w {} {while 1 {u};list ok};w", "ok");
        check.gives("while 1 {catch p e;break};set e", "break without loop").fails("while 1 {p}", "break without loop");
    }

    private static void returns() {
        Check check = Check.of("return <-code code> <value>: (0 to 3 arguments; of 2 and 3 the first must be -code; one alone is the value) code 2, and tells the code (0).");
        check.ends("return", 2, "").ends("return v", 2, "v").ends("return -code", 2, "-code")
                .ends("return -code 0", 2, "").ends("return -code 1 v", 2, "v")
                .fails("return a b", "wrong arguments: return")
                .fails("return a b c", "wrong arguments: return")
                .fails("return -Code 1", "wrong arguments: return");
        check.fails("return -code 1 v w", "wrong arguments: return")
                .fails("return v -code 1", "wrong arguments: return")
                .fails("return -code x y z", "wrong arguments: return")
                .gives("proc p {} {return -code 3 v};catch p r;list $r [catch p]", "v 3")
                .gives("proc q {} {return v};list [catch q] [q]", "0 v");
    }

    private static void codesByName() {
        Check check = Check.of("code: ok error return break continue (0 to 4), or a WHOLE from 0 to 999; \"no code: TEXT\".");
        check.gives("proc p c {return -code $c v};list [catch {p ok}] [catch {p error}] [catch {p return}] [catch {p break}] [catch {p continue}]", "0 1 2 3 4")
                .gives("list [catch {p 0}] [catch {p 999}] [catch {p 0x3e7}] [catch {p { +7 }}] [catch {p -0}] [catch {p 007}]", "0 999 999 7 0 7");
        for (String code : new String[] {"k", "rror", "urn", "-1", "1000", "0x3e8", "", "Ok", "ok ", "err", "okerror", "ok error",
                "9223372036854775807", "9223372036854775808", "4294967296", "1.0"}) {
            check.fresh().fails("return -code {" + code + "} v", "no code: " + code)
                    .fails("return -code {" + code + "}", "no code: " + code);
        }
    }

    private static void breakContinueError() {
        Check check = Check.of("break, continue: codes 3, 4.");
        check.ends("break", 3, "").ends("continue", 4, "")
                .gives("list [catch break] [catch continue]", "3 4")
                .fails("break 1", "wrong arguments: break")
                .fails("continue 1", "wrong arguments: continue");
        check = Check.of("error message: code 1.");
        check.fails("error {a b}", "a b").fails("error {}", "")
                .fails("error", "wrong arguments: error")
                .fails("error a b", "wrong arguments: error");
    }

    private static void catching() {
        Check check = Check.of("catch script <name>: the script's code, as a result; the name gets its result.");
        check.gives("catch {list a} r", "0").gives("set r", "a").gives("catch {error b} r", "1")
                .gives("set r", "b").gives("catch {return c} r", "2").gives("set r", "c")
                .gives("catch break r", "3").gives("set r", "").gives("catch continue", "4")
                .gives("catch {} r", "0").gives("set r", "").gives("catch \\{ r", "1")
                .gives("set r", "missing brace");
        check.gives("catch {none} r;set r", "no such command: none")
                .gives("catch {set x $none} r;set r", "no variable none")
                .fails("set m(1) 1;catch {list a} m", "m is an array")
                .gives("catch {list d} m(2);set m(2)", "d")
                .fails("catch {list a} r(1)", "r is no array")
                .gives("catch {catch {error e} s} r;list $r $s", "1 e");
    }

    private static void evalAndExpr() {
        Check check = Check.of("eval ..: (one at least) the texts as concat makes them, evaluated; its result.");
        check.fails("eval", "wrong arguments: eval").gives("eval {}", "").gives("eval {} { }", "")
                .gives("eval list a {b c}", "a b c").gives("eval { list a } {;list b}", "b")
                .gives("eval {set x 1\n}", "1").gives("eval {list a;}", "a")
                .ends("eval break", 3, "").gives("eval {list a;#} b", "a")
                .gives("eval list {{a b}}", "{a b}");
        check = Check.of("expr ..: (one at least) likewise, an expression.");
        check.fails("expr", "wrong arguments: expr").gives("expr 1 + 2", "3")
                .gives("expr { 1 } {} {+2}", "3").fails("expr {}", "no expression: ")
                .fails("expr {} { }", "no expression: ").fails("expr 1 1", "no expression: 1 1");
    }

    private static void ifWordByWord() {
        Check check = Check.of("if c <then> body, elseif c <then> body any number of times, <else> body or nothing: the first body whose expression is true; its result.");
        check.gives("if 1 {list a}", "a").gives("if 0 {list a}", "")
                .gives("list x;if 0 {list a}", "").gives("if 1 then {list a} else {list b}", "a")
                .gives("if 0 then {list a} else {list b}", "b").gives("if 0 {list a} {list b}", "b")
                .gives("if 0 {list a} elseif 1 {list b} else {list c}", "b");
        check.gives("if 0 {list a} elseif 0 then {list b} elseif 0 {list c} elseif 1 then {list d} else {list e}", "d")
                .gives("if 0 a elseif 0 b else {list c}", "c")
                .gives("if 0 a elseif 0 b {list c}", "c").gives("if 0 a elseif 0 b", "")
                .gives("if 1 {}", "").gives("if true {list a}", "a").gives("if -3 {list a}", "a");

        check = Check.of("(Word by word, as far as it is needed: an expression is worked; a then behind it is passed over; its body is evaluated, if it is true, and that is all.");
        check.gives("if 1 {list a} else", "a").gives("if 1 {list a} elseif", "a")
                .gives("if 1 {list a} b c d e", "a").gives("if 1 {list a} else b c", "a")
                .gives("if 1 then {list a} {] bad}", "a")
                .gives("proc then {} {list t};if 1 then then", "t").gives("if 0 a then", "t")
                .gives("if 1 {list a} elseif {bad bad} {}", "a");
        check.fails("if {} {}", "no expression: ").fails("if x {}", "no expression: x")
                .fails("if {\"x\"} {}", "no truth: x").gives("proc else {} {list e};if 1 else", "e")
                .gives("if 0 a else else", "e").gives("proc elseif {} {list f};if 1 elseif", "f")
                .gives("if 0 a else elseif", "f");

        check = Check.of("Else what is next: nothing; elseif, and so on with an expression; else, a body; any other word is such a body; behind this one nothing may stand.");
        check.gives("if 0 a", "").gives("if 0 a elseif 1 {list b}", "b")
                .gives("if 0 a else {list b}", "b").gives("if 0 a {list b}", "b")
                .fails("if 0 a {list b} {list c}", "wrong arguments: if")
                .fails("if 0 a else {list b} {list c}", "wrong arguments: if")
                .fails("if 0 a {puts b} else {puts c}", "wrong arguments: if");
        Check.due("OUT of a body with more behind it", check.out(), "");
        check.fails("if 0 a {list b} elseif 1 {list c}", "wrong arguments: if")
                .fails("if 0 a elseif 0 b c d", "wrong arguments: if")
                .fails("if 0 a Else {list b}", "wrong arguments: if");
    }

    private static void ifLacksAWord() {
        Check check = Check.of("\"wrong arguments: if\", where a word lacks or is too much.)");
        check.fails("if", "wrong arguments: if").fails("if 1", "wrong arguments: if")
                .fails("if 0", "wrong arguments: if").fails("if 1 then", "wrong arguments: if")
                .fails("if 0 then", "wrong arguments: if")
                .fails("if 0 a else", "wrong arguments: if")
                .fails("if 0 a elseif", "wrong arguments: if")
                .fails("if 0 a elseif 1", "wrong arguments: if");
        check.fails("if 0 a elseif 0 then", "wrong arguments: if")
                .fails("if 0 a elseif 0 b else", "wrong arguments: if").fails("if {[error x]}", "x")
                .fails("if {\"x\"}", "no truth: x").fails("if 0 a elseif {[error y]}", "y")
                .gives("rename if wenn", "").fails("wenn", "wrong arguments: wenn");
    }

    private static void loops() {
        Check check = Check.of("while c body; for first c next body: as long as it is true; body's 3 ends it, 4 goes on (for: with next; there 3 ends it, too).");
        check.gives("set i 0;while {$i<3} {append a $i;incr i};set a", "012")
                .gives("while 0 {error e}", "").gives("while 1 break", "")
                .gives("set i 0;set b {};while {[incr i]<5} {if {$i==2} continue;append b $i};set b", "134")
                .gives("set i 0;while 1 {incr i;if {$i>3} break;continue;error e};set i", "4");
        check.fails("while 1 {error e}", "e").ends("while 1 {return r}", 2, "r")
                .ends("proc p {} {return -code 7 v};while 1 p", 7, "v")
                .fails("while x {}", "no expression: x").fails("while {\"x\"} {}", "no truth: x")
                .ends("while {[break]} {}", 3, "").ends("while {[continue]} {}", 4, "")
                .gives("while true break", "").gives("while false {error e}", "")
                .fails("while {} {}", "no expression: ");
    }

    private static void forLoops() {
        Check check = Check.of("while c body; for first c next body: as long as it is true; body's 3 ends it, 4 goes on (for: with next; there 3 ends it, too).");
        check.gives("for {set i 0} {$i<3} {incr i} {append a $i};list $a $i", "012 3")
                .gives("for {set i 9} 0 {error n} {error b};set i", "9")
                .gives("set b {};for {set i 0} {$i<4} {incr i} {if {$i==1} continue;append b $i};set b", "023")
                .gives("for {set i 0} 1 {incr i} {if {$i==2} break};set i", "2")
                .gives("for {set i 0} 1 break {incr i};set i", "1");
        check.ends("for {} 1 continue {}", 4, "").ends("for break 1 {} {}", 3, "")
                .ends("for continue 1 {} {}", 4, "").fails("for {error f} 1 {} {}", "f")
                .fails("for {} {error c} {} {}", "no expression: error c")
                .fails("for {} 1 {error n} {}", "n").fails("for {} 1 {} {error b}", "b")
                .ends("for {} 1 {} {return r}", 2, "r").ends("for {return f} 1 {} {}", 2, "f")
                .ends("for {} 1 {return n} {}", 2, "n");
        check.fails("for {} {\"x\"} {} {}", "no truth: x").gives("for {} 1 {} {catch {error x};break}", "");
    }

    private static void foreachPairs() {
        Check check = Check.of("foreach names list .. body: (pairs: names, a list of one at least, else \"no names\"; and a list; all are looked at first, pair by pair)");
        check.fails("foreach", "wrong arguments: foreach")
                .fails("foreach a", "wrong arguments: foreach")
                .fails("foreach a b", "wrong arguments: foreach").gives("foreach a b {}", "")
                .fails("foreach a b c d", "wrong arguments: foreach")
                .gives("foreach a b c d {}", "")
                .fails("foreach a b c d e f", "wrong arguments: foreach");
        check.fails("foreach {} {1} {}", "no names").fails("foreach { } {1} {}", "no names")
                .fails("foreach \\{ {1} {}", "no list").fails("foreach a \\{ {}", "no list")
                .fails("foreach a {1} {} {2} {puts no}", "no names")
                .fails("foreach {} \\{ {}", "no names").fails("foreach a \\{ {} {} {}", "no list")
                .fails("foreach {} {} \\{ {} {}", "no names")
                .fails("foreach x 1 y \\{ {puts no}", "no list");
        Check.due("OUT of what is looked at first", check.out(), "");
        check.gives("list [info exists x] [info exists a]", "0 1").gives("foreach {{}} {1} {};set {}", "1");
    }

    private static void foreachRounds() {
        Check check = Check.of("round by round the names get the next elements, empty where there are none, as long as one list has some; 3 and 4 likewise.");
        check.gives("foreach x {} {error e}", "").gives("info exists x", "0")
                .gives("foreach x {1 {2 3} {}} {append a <$x>};set a", "<1><2 3><>")
                .gives("set x", "")
                .gives("set a {};foreach {x y} {1 2 3} {append a <$x,$y>};set a", "<1,2><3,>")
                .gives("set a {};foreach x {1 2 3} y {4} {append a <$x,$y>};set a", "<1,4><2,><3,>");
        check.gives("set a {};foreach {x y} {1 2} z {3 4 5} {append a <$x,$y,$z>};set a", "<1,2,3><,,4><,,5>")
                .gives("set a {};foreach x {} y {1} {append a <$x,$y>};set a", "<,1>")
                .gives("set a {};foreach x {1 2 3} {if {$x==2} continue;append a $x};set a", "13")
                .gives("set a {};foreach x {1 2 3} {if {$x==2} break;append a $x};list $a $x", "1 2");
        check.fails("foreach x {1} {error e}", "e").ends("foreach x {1} {return r}", 2, "r")
                .gives("foreach m(k) {1 2} {};set m(k)", "2")
                .fails("foreach m {1} {}", "m is an array")
                .fails("foreach {x x(1)} {1 2} {}", "x is no array")
                .gives("foreach {x x} {1 2} {};set x", "2")
                .gives("set l {1 2};foreach x $l {set l {}};set x", "2")
                .gives("foreach x {1 2} {unset x};info exists x", "0");
        check.gives("foreach {n(1) n(2)} {a b c d} {append o [array get n];unset n};list $o [array exists n]", "{1 a 2 b1 c 2 d} 0")
                .fails("foreach n(1) {a b} {unset n;set n x}", "n is no array");
    }

    private static void switches() {
        Check check = Check.of("switch text pairs: pairs, a list of patterns and bodies (\"no pairs\", if one lacks): the body behind the first pattern that is the text, or behind the last one, if that is default");
        check.gives("switch b {a b c {list 1}}", "").gives("switch default {a default b {list 1}}", "")
                .gives("switch b {a {list 1} b {list 2} b {list 3}}", "2")
                .gives("switch c {a {list 1} b {list 2}}", "")
                .gives("switch c {a {list 1} default {list 2}}", "2")
                .gives("switch c {default {list 1} a {list 2}}", "")
                .gives("switch default {default {list 1} a {list 2}}", "1").gives("switch a {}", "")
                .gives("switch a { }", "").gives("switch {} {{} {list 1}}", "1");
        check.fails("switch a a", "no pairs").fails("switch a {a {} b}", "no pairs")
                .fails("switch a \\{", "no list")
                .fails("switch a {a {error 1} default}", "no pairs")
                .gives("switch a {default {list 1} default {list 2}}", "2")
                .gives("switch A {a {list 1}}", "").gives("switch 1 {01 {list 1}}", "")
                .gives("switch default {default {list 1}}", "1")
                .gives("switch * {a {list 1} * {list 2}}", "2");
    }

    private static void switchBodies() {
        Check check = Check.of("where a body is - , the next one that is not (\"no body\", if there is none); its result.");
        check.fails("switch a {a -}", "no body");
        check.gives("switch a {a - b {list 1}}", "1")
                .gives("switch a {a - b - c {list 1} d {list 2}}", "1")
                .gives("switch c {a - b - c {list 1}}", "1").fails("switch a {a -}", "no body")
                .fails("switch b {a {list 1} b - c -}", "no body")
                .gives("switch a {a {list 1} b -}", "1")
                .fails("switch x {a {list 1} default -}", "no body");
        check.gives("switch a {a - default {list 1}}", "1").ends("switch a {a break}", 3, "")
                .fails("switch a {a {error e}}", "e")
                .fails("switch a {a --}", "no such command: --")
                .fails("switch a {a {- }}", "no such command: -")
                .ends("switch a {a {return r}}", 2, "r").gives("switch a {a {}}", "");
    }

    private static void upvar() {
        Check check = Check.of("upvar <level> other name ..: (one pair at least; the level stands ahead, if the number of arguments is odd; else it is 1) links, pair by pair: name, of the frame at hand, to other, of that level's.");
        check.fails("upvar", "wrong arguments: upvar").fails("upvar 0", "wrong arguments: upvar")
                .fails("upvar a b", "no level: 1").gives("upvar 0 a b", "")
                .fails("upvar a b c d", "no level: 1").gives("upvar 0 c d e f", "").counts(5, 6)
                .fails("upvar a b c", "no level: a").fails("upvar 0 g", "no level: 1")
                .fails("upvar 1 a h", "no level: 1");
        check.gives("proc p {} {upvar b x d y;set x 1;set y 2};p;list $a $c", "1 2")
                .gives("proc q {} {set v 3;r};proc r {} {upvar 2 a x;upvar 1 v y;upvar #0 c z;list $x $y $z};q", "1 3 2")
                .gives("catch {upvar 0 g h t(1) i};info exists h", "0").counts(5, 10);
        check.fails("set u 1;upvar 0 k l u(1) o p q", "u is no array").counts(5, 13)
                .gives("proc s {} {upvar 0 1 2;set 2 x;set 1};s", "x");
    }

    private static void uplevel() {
        Check check = Check.of("uplevel <level> ..: (one text at least; with two arguments or more the first is the level, if it is digits, or # and digits; else it is 1) as eval, in the frame of that level.");
        check.fails("uplevel", "wrong arguments: uplevel").fails("uplevel list", "no level: 1")
                .fails("uplevel 0", "no level: 1").fails("uplevel #0", "no level: 1")
                .gives("uplevel 0 list", "").gives("uplevel #0 list a", "a")
                .fails("uplevel list a", "no level: 1").fails("uplevel 1 list", "no level: 1");
        check.gives("proc p {} {uplevel set a 1;uplevel {set b} 2;uplevel 1 set c 3;uplevel #0 {set d 4;info level}};p", "0")
                .gives("list $a $b $c $d", "1 2 3 4")
                .fails("proc q {} {uplevel 0};q", "no such command: 0")
                .gives("proc r {} {uplevel #0};list [r]", "{}");
        check.fails("proc s {} {uplevel x y};s", "no such command: x")
                .gives("proc t {} {uplevel # list};list [t]", "{}");
        check.fails("proc u {} {uplevel -1 list};u", "no such command: -1")
                .fails("proc v {} {uplevel 2 list};v", "no level: 2")
                .ends("proc w {} {uplevel break;list no};while 1 {catch w e;break};set e", 0, "break without loop")
                .gives("proc x {} {set y 1;uplevel {set y 2};set y};list [x] $y", "1 2")
                .gives("proc z {} {catch {uplevel {error e}};info level};z", "1");
    }

    private static void global() {
        Check check = Check.of("global ..: as upvar #0 name name, for each; nothing in frame 0.");
        check.gives("global a b m(1)", "").counts(5, 0)
                .gives("proc p {} {global a b;set a 1;set b 2};p;list $a $b", "1 2")
                .gives("proc q {} {global;global c;info exists c};q", "0").counts(5, 3)
                .fails("proc r {} {global m(1)};r", "m(1) is no name")
                .fails("proc s a {global a};s 1", "a is there already")
                .fails("proc t {} {global a a};t", "a is itself");
        check.gives("proc u {} {v};proc v {} {global a;incr a};u;set a", "2")
                .gives("proc w {} {uplevel #0 {global a};info exists a};w", "0")
                .gives("proc x {} {global a;unset a;info exists a};list [x] [info exists a]", "0 0");
    }
}
