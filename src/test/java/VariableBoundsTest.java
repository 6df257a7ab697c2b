/** Section 2 of the document, VARIABLES, LEVELS and LINKS: each sentence that names a boundary. */
public final class VariableBoundsTest {
    public static void main(String[] args) {
        splitNames();
        knownNames();
        knownElements();
        namesInMessages();
        reading();
        writing();
        elementsAreNoArrays();
        unsetting();
        frames();
        levels();
        levelsOfCallers();
        linksInOrder();
        linksByName();
        linksToWhatIsFound();
        linksToThemselves();
        linksInPlaceOfNames();
        linksToLinks();
        Check.finish();
    }

    private static void splitNames() {
        Check check = Check.of("a name that ends with ) and has a ( is that of an element");
        check.gives("set m(a) 1;array exists m", "1")
                .gives("set ( 2;set ) 3;set n( 4;set n) 5;set n(a)b 6;set )( 7;set a)b( 8", "8");
        check.counts(5, 8)
                .gives("list [array exists n] [set n(] [set n)] [set n(a)b] [set )(]", "0 4 5 6 7")
                .gives("set () 9;array get {}", "{} 9");

        check = Check.of("what is ahead of the first ( is the array's, what is between it and the last ) the element's.");
        check.gives("set m(a(b)c) 1;array names m", "a(b)c")
                .gives("set m() 2;array names m", "a(b)c {}")
                .gives("set (k) 3;array names {}", "k");
        check.gives("set n((a)) 4;array names n", "(a)").gives("set a)(b) 5;array names a)", "b")
                .gives("set m()) 6;array names m", "a(b)c {} )")
                .gives("set {q( )} 7;array names q", "{ }").counts(5, 5);
    }

    private static void knownNames() {
        Check check = Check.of("A name (an element) is KNOWN to its frame (array) from when it is first written or linked on, as long as that is there, also while it is UNSET.");
        check.fails("set a", "no variable a").counts(5, 0).fails("unset a", "no variable a")
                .counts(5, 0).gives("info exists a", "0").counts(5, 0);
        check.gives("set a 1", "1").counts(5, 1).gives("set a 2", "2").counts(5, 1)
                .gives("unset a", "").counts(5, 1).fails("set a", "no variable a")
                .gives("incr a", "1").counts(5, 1);
        check.gives("upvar 0 b c", "").counts(5, 3).gives("info exists b", "0")
                .gives("info exists c", "0").gives("array set m {}", "").counts(5, 3)
                .fails("append d", "no variable d");
        check.counts(5, 3).gives("array size n", "0").gives("array unset n", "")
                .gives("lassign {}", "").counts(5, 3).fails("set a(1) x", "a is no array")
                .counts(5, 3);
        check.gives("proc p x {set y 1;info exists z};p 1", "0").counts(5, 3).gives("p 2", "0");
        check.gives("proc q {} {set r [info exists s];set s 1;set r};list [q] [q]", "0 0");
        check.gives("proc q {} {upvar 0 s t;set r [info exists s];set s 1;set r};list [q] [q]", "0 0")
                .gives("set m(a) 1;unset m;upvar 0 m(b) x;list [info exists m(b)] [info exists x]", "0 0");
    }

    private static void knownElements() {
        Check check = Check.of("A name (an element) is KNOWN to its frame (array) from when it is first written or linked on, as long as that is there, also while it is UNSET.");
        check.gives("set m(b) 1;set m(a) 2;set m(c) 3;unset m(b) m(a);array names m", "c")
                .gives("set m(a) 4;array names m", "a c")
                .gives("set m(b) 5;array names m", "b a c");
        check.gives("upvar 0 m(d) x;set m(e) 6;set x 7;array get m", "b 5 a 4 c 3 d 7 e 6")
                .gives("unset m;set m(c) 1;set m(b) 2;array names m", "c b");
        StringBuilder script = new StringBuilder("unset m;");
        for (int i = 0; i < 100; i++) {
            script.append("set m(").append(i).append(") 1;unset m(").append(i).append(");");
        }
        check.gives(script + "array size m", "0").meets("set m(x) 1", 3).gives("set m(99) 1;array names m", "99");
    }

    private static void namesInMessages() {
        Check check = Check.of("NAME in a message is the name as it was told (of $ with a KEY: name(key)), but where it is said to be the array's.");
        check.fails("set {m(a b)c)}", "no variable m(a b)c)")
                .fails("set x $m([list a b])", "no variable m(a b)")
                .fails("set x ${m(a b)}", "no variable m(a b)");
        check.gives("set m(1) 1;set t 2", "2").fails("set k 5;set x $m($k)", "no element m(5)")
                .fails("set {t(a b)}", "t is no array").fails("unset t(x)", "t is no array");
        check.gives("proc p {} {upvar #0 m n;set n(zz)}", "").fails("p", "no element n(zz)")
                .fails("proc q {} {upvar #0 t u;set x $u(1)};q", "u is no array")
                .fails("incr m", "m is an array");
    }

    private static void reading() {
        Check check = Check.of("\"no variable NAME\" (it is UNSET or not known; of an element: its array is)");
        check.fails("set a", "no variable a").fails("set x $a", "no variable a")
                .fails("set x $a(1)", "no variable a(1)").gives("set a 1;set m(1) 2;unset a m", "");
        check.fails("set a", "no variable a").fails("set a(1)", "no variable a(1)")
                .fails("set m(1)", "no variable m(1)").fails("set m", "no variable m")
                .gives("set a 0", "0").gives("set a", "0").gives("set b {};set b", "");

        check = Check.of("\"NAME is an array\", \"NAME is no array\" (an element of one with a text; NAME is the array's)");
        check.gives("set m(1) 1;set t x", "x").fails("set m", "m is an array")
                .fails("set x $m", "m is an array").fails("set x $t(1)", "t is no array")
                .fails("set t()", "t is no array").gives("list $m(1) $t", "1 x");
        check.gives("unset m(1);array exists m", "1").fails("set m", "m is an array")
                .fails("append m", "m is an array").fails("incr t(1)", "t is no array")
                .fails("append m x", "m is an array").fails("lappend t(1) x", "t is no array");

        check = Check.of("\"no element NAME\" (UNSET or not known).");
        check.gives("set m(1) 1;set m(2) {}", "").fails("set m(3)", "no element m(3)")
                .gives("unset m(1)", "").fails("set x $m(1)", "no element m(1)")
                .gives("set x $m(2)", "").fails("set m()", "no element m()");
    }

    private static void writing() {
        Check check = Check.of("(a variable that is UNSET or not known gets the text, or, by an element, is an array, and then that element is KNOWN)");
        check.gives("set a 1;unset a;set a 2", "2").gives("unset a;set a(k) 3;array get a", "k 3")
                .gives("unset a;set a 4", "4").gives("set n(x) 5;array names n", "x")
                .gives("unset n(x);set n(y) 6;array get n", "y 6");

        check = Check.of("To WRITE (a variable that is UNSET or not known gets the text, or, by an element, is an array, and then that element is KNOWN): \"NAME is an array\", \"NAME is no array\" (as above; a variable that is an element, also by a link, is never an array).");
        for (String write : new String[] {"set % 1", "incr %", "append % 1", "lappend % 1", "lassign {1} %",
                "foreach % {1} {}", "catch {} %"}) {
            check.fresh().gives("set m(k) 1;set t 2;set m(e) 3;unset m(e)", "");
            check.fails(write.replace("%", "m"), "m is an array")
                    .fails(write.replace("%", "t(k)"), "t is no array")
                    .gives("list [array get m] $t", "{k 1} 2").counts(5, 2);
            Check.due("the code of " + write, check.run(write.replace("%", "m(e)")), 0);
            Check.due("the code of " + write, check.run(write.replace("%", "n(e)")), 0);
            check.gives("list [info exists m(e)] [info exists n(e)]", "1 1").counts(5, 3);
        }
        check.fresh().fails("set t 2;array set t {a b}", "t is no array")
                .fails("proc p {} {upvar #0 t t;array set t {a b}};p", "t is no array")
                .fails("set m(k) 1;proc q {} {upvar #0 m n;set n 1};q", "n is an array");
    }

    private static void elementsAreNoArrays() {
        Check check = Check.of("a variable that is an element, also by a link, is never an array");
        check.gives("set m(k) 1;upvar 0 m(k) x;unset x", "").fails("set x(a) 1", "x is no array")
                .fails("upvar 0 x(a) y", "x is no array")
                .fails("array set x {a b}", "x is no array").gives("array exists x", "0");
        check.gives("set x 2;set m(k)", "2").gives("unset m;info exists x", "0")
                .fails("set x(a) 1", "x is no array").gives("set x 3;info exists m", "0")
                .fails("set x(a) 1", "x is no array");
        check.gives("upvar 0 free y;set y(a) 1;array get free", "a 1");
    }

    private static void unsetting() {
        Check check = Check.of("To be unset: as READ, but an array may be");
        check.fails("unset a", "no variable a").fails("unset a(1)", "no variable a(1)")
                .gives("set a 1;set m(1) 2", "2").fails("unset a(1)", "a is no array")
                .fails("unset m(2)", "no element m(2)").gives("unset m(1)", "");
        check.fails("unset m(1)", "no element m(1)").gives("array exists m", "1")
                .gives("unset m a", "").fails("unset m", "no variable m")
                .fails("unset a", "no variable a");
        check.gives("set b 1;set c 2;catch {unset b none c};list [info exists b] [info exists c]", "0 1");

        check = Check.of("it and its elements are UNSET, and its elements not known any more (variables linked to them live on by themselves).");
        check.gives("set m(a) 1;set m(b) 2;upvar 0 m(a) x;unset m;list [info exists m] [info exists x]", "0 0")
                .gives("set x 5;info exists m", "0").gives("set m(b) 6;array get m", "b 6");
        check.gives("set m(a) 7;set x", "5").gives("set x 8;set m(a)", "7")
                .gives("array names m", "b a")
                .gives("array set m {c 1};array unset m;set m(c) 2;array get m", "c 2")
                .gives("set x", "8");
    }

    private static void frames() {
        Check check = Check.of("Frame 0 is there always. A procedure that is called has a new one; its LEVEL is one more than that of the frame at hand.");
        check.gives("info level", "0").gives("proc p {} {info level};list [p] [info level]", "1 0")
                .gives("proc q {} {list [info level] [p]};q", "1 2")
                .gives("proc r {} {uplevel #0 q};r", "1 2");
        check.gives("proc s {} {uplevel 1 {info level}};s", "0")
                .gives("set a 1;proc t {} {info exists a};t", "0")
                .gives("proc u {} {set b 1;v};proc v {} {info exists b};u", "0").counts(3, 2);
    }

    private static void levels() {
        Check check = Check.of("LEVELS are told by #n (that level), or n (so many above the one at hand), n digits");
        check.gives("proc p l {uplevel $l {info level}};proc q l {p $l};proc r l {q $l};list [r #0] [r #1] [r #2] [r #3] [r 0] [r 1] [r 2] [r 3]",
                "0 1 2 3 3 2 1 0");
        check.gives("list [r #00] [r #002] [r 003] [r 00]", "0 2 0 3");
        check.gives("proc s n {if {$n > 1} {s [incr n -1]} else {list [p #10] [p #11] [p 10] [p 11] [p 12]}};s 12",
                "10 11 3 2 1");

        check = Check.of("\"no level: TEXT\" if there is none such, or it is none.");
        check.gives("upvar #0 a b;upvar 0 c d;uplevel #0 {list ok}", "ok")
                .gives("uplevel 0 {list ok}", "ok").fails("uplevel list", "no level: 1")
                .fails("uplevel 1 list", "no level: 1").fails("uplevel #1 list", "no level: #1");
        check.fails("upvar a b", "no level: 1").fails("upvar 1 a b", "no level: 1")
                .fails("upvar #1 a b", "no level: #1");
        for (String level : new String[] {"x", "-1", "#", "#-1", "+1", "#x", "{}", "{ 0}", "{0 }", "{# 0}", "0x0",
                "#0x0", "##0", "99999999999999999999", "#99999999999999999999", "4294967296", "#4294967296"}) {
            String told = level.replace("{", "").replace("}", "");
            check.fresh().fails("upvar " + level + " e f", "no level: " + told).counts(5, 0);
        }
        check.fresh().gives("proc p l {upvar $l e f;list ok};list [p 0] [p 1] [p #0] [p #1]", "ok ok ok ok")
                .fails("p 2", "no level: 2").fails("p #2", "no level: #2")
                .fails("p -1", "no level: -1").fails("uplevel -1 {list}", "no level: 1");
    }

    private static void levelsOfCallers() {
        Check check = Check.of("(It is that of the frames from which the frame at hand was called, one from the other.)");
        check.gives("proc p {} {set v p;uplevel #0 q};proc q {} {set v q;upvar #1 v w;list [info level] [catch {upvar 0 v w} e] $e};p",
                "1 1 {w is itself}");
        check.gives("proc a {} {set v a;uplevel 1 b};proc b {} {set v b;c};proc c {} {upvar 1 v w;list [info level] $w};a", "2 b")
                .fails("proc d {} {uplevel #0 {uplevel 1 {list}}};d", "no level: 1");
        check.fails("proc e {} {uplevel #0 f};proc f {} {upvar #2 v w};e", "no level: #2")
                .gives("proc g {} {uplevel 1 {upvar 0 x y};info exists y};g", "0").counts(5, 2);
    }

    /** Where two of them are so at once, it is the first in this order that is told. */
    private static void linksInOrder() {
        Check check = Check.of("In this order: \"NAME is no name\" if the name that is to be a link is split");
        check.gives("set t 1;set u 2;set m(1) 3", "3").fails("upvar 0 t(1) m(1)", "m(1) is no name")
                .fails("upvar 0 m(1) m(1)", "m(1) is no name")
                .fails("upvar 0 t(1) u", "t is no array").fails("upvar 0 t(1) t", "t is no array")
                .fails("upvar 0 u u", "u is itself").counts(5, 3);
        check.fails("upvar 0 new u", "u is there already").counts(5, 4)
                .fails("upvar 0 m(2) u", "u is there already").gives("array size m", "1")
                .gives("set i 0;while {$i<95} {set v$i 1;incr i}", "").counts(5, 100);
        check.meets("upvar 0 more u", 3).fails("upvar 0 new(1) u(1)", "u(1) is no name")
                .fails("upvar 0 t(1) w", "t is no array").meets("upvar 0 t w", 3)
                .fails("upvar 0 t u", "u is there already");

        check = Check.of("A FRAME has NAMES, each of a variable, which is UNSET, has a text, or is an ARRAY of elements told by texts, each a variable with a text or UNSET.");
        check.gives("upvar 0 a b;set c 1;set m(x) 2;upvar 0 m(y) d;list [info exists a] [info exists c] [array exists m] [info exists m(x)] [info exists m(y)]", "0 1 1 1 0")
                .counts(5, 5);
    }

    private static void linksByName() {
        Check check = Check.of("\"NAME is no name\" if the name that is to be a link is split");
        check.fails("upvar 0 a m(1)", "m(1) is no name").counts(5, 0)
                .fails("upvar 0 a ()", "() is no name").counts(5, 0)
                .fails("upvar 0 m(1) m(2)", "m(2) is no name").counts(5, 0);
        check.fails("set t 1;upvar 0 t(1) m(1)", "m(1) is no name").gives("upvar 0 a m(1", "")
                .gives("upvar 0 a m)", "").gives("upvar 0 a m(1)x", "").counts(5, 5)
                .fails("proc p {} {global m(1)};p", "m(1) is no name").counts(5, 5);
        check.gives("global m(1)", "").fails("upvar x a m(1)", "no level: x");
    }

    private static void linksToWhatIsFound() {
        Check check = Check.of("what it is linked to is found: KNOWN from then on, UNSET if it was not known (an element: its array is written, as by an element)");
        check.gives("upvar 0 a x;info exists a", "0").counts(5, 2)
                .gives("upvar 0 m(k) y;list [array exists m] [array size m] [info exists m(k)]", "1 0 0")
                .counts(5, 4);
        check.gives("set y 1;array get m", "k 1").fails("set t 1;upvar 0 t(k) z", "t is no array")
                .counts(5, 5).fails("proc p {} {upvar 1 a(k) z};set a 1;p", "a is no array");
        check.gives("proc q {} {upvar 1 fresh z};q;info exists fresh", "0").counts(5, 6)
                .fails("set x 2;upvar 0 new x;set x", "no variable x").gives("set a", "2")
                .counts(5, 7);
        check.fails("set u 1;upvar 0 other u", "u is there already").counts(5, 9).gives("info exists other", "0");
    }

    private static void linksToThemselves() {
        Check check = Check.of("\"NAME is itself\" if the name is that variable's already (also by a link)");
        check.fails("upvar 0 a a", "a is itself").counts(5, 1)
                .fails("set b 1;upvar 0 b b", "b is itself").gives("upvar 0 c d", "")
                .fails("upvar 0 c d", "d is itself").fails("upvar 0 d c", "c is itself")
                .fails("upvar 0 d d", "d is itself");
        check.fails("proc p {} {global g g};p", "g is itself")
                .fails("proc q {} {global g;upvar #0 g g};q", "g is itself")
                .gives("proc r {} {global g;set g 2};r;set g", "2")
                .fails("upvar #0 b b", "b is itself").gives("upvar 0 m(1) e", "")
                .fails("upvar 0 m(1) e", "e is itself");
        check.gives("proc s {} {upvar 0 h i;upvar #0 h h;list ok};s", "ok");
    }

    private static void linksInPlaceOfNames() {
        Check check = Check.of("\"NAME is there already\" if it is known, not UNSET and no link");
        check.fails("set a 1;upvar 0 b a", "a is there already")
                .gives("unset a;upvar 0 b a;set a 2;set b", "2")
                .gives("upvar 0 c a;set a 3;list $b $c", "2 3")
                .fails("set m(1) 1;upvar 0 b m", "m is there already")
                .gives("unset m(1);array exists m", "1");
        check.fails("upvar 0 b m", "m is there already").gives("unset m;upvar 0 b m;set m", "2")
                .fails("proc p x {global x};p 1", "x is there already")
                .gives("proc q x {unset x;global x;upvar #0 b x;set x};q 1", "2");

        check = Check.of("then it is KNOWN, and that link (an earlier link, or a variable that is UNSET, is none of this name any more).");
        check.gives("upvar 0 a x;set x 1;upvar 0 b x;info exists x", "0")
                .gives("set x 2;list $a $b", "1 2").counts(5, 3)
                .gives("set y 1;upvar 0 y z;unset y;upvar 0 a y;list $y [info exists z]", "1 0")
                .gives("set z 9;list $y $a $z", "1 1 9");
        check.gives("unset x;info exists b", "0").gives("set b 4;set x", "4")
                .gives("proc p {} {upvar 1 made n;set n 5};p;set made", "5").counts(5, 6);
    }

    private static void linksToLinks() {
        Check check = Check.of("Links to links are links to the variable itself.");
        check.gives("upvar 0 a b;upvar 0 b c;upvar 0 other b;set c 1;list $a [info exists other]", "1 0")
                .gives("proc p {} {upvar 1 c d;q};proc q {} {upvar 1 d e;set e 2};p;set a", "2");
        check.gives("upvar 0 m(k) x;upvar 0 x y;set y 3;array get m", "k 3")
                .gives("upvar 0 arr l;set l(z) 4;upvar 0 l(z) w;set w 5;array get arr", "z 5");

        check = Check.of("A LINK: a name of a frame is that of another variable (of another frame, or an element).");
        check.gives("proc p {} {upvar 1 t u m(1) v;incr u;append v x;unset u};set t 1;set m(1) y;p;list [info exists t] $m(1)", "0 yx")
                .fails("proc q {} {upvar 1 t u;set u};q", "no variable u");
    }
}
