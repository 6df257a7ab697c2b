/** Section 3 of the document: LIMITS and WORK, and promise 9's counts of them. */
public final class LimitTest {
    public static void main(String[] args) {
        work();
        workLimit();
        longTexts();
        manyNames();
        openCalls();
        evaluations();
        nestedReading();
        nestedExpressions();
        stateBehindLimits();
        Check.finish();
    }

    /** A script's WORK on a new object. */
    private static void costs(String script, int work) {
        Check check = new Check();
        check.run(script);
        Check.due("WORK of: " + script, check.core.count(0), work);
    }

    private static void work() {
        costs("", 5);
        costs(" # note", 5 + 7);
        costs("list", 5 + 4 + 4 + 6);
        costs("list a bc", 5 + 9 + 7 + 8 + 4);
        costs("nothing", 5 + 7 + 7 + 6 + "no such command: nothing".length());
        costs("set", 5 + 3 + 3 + 6 + "wrong arguments: set".length());
        costs("list {", 5 + 6);
        costs("list {*}{a b}", 5 + 13 + 4 + 3 + 8 + 3);
        costs("{*}{}", 5 + 5);
        costs("list {*}\\{", 5 + 10 + 4 + 1);
        costs("list [list]", 5 + 11 + 4 + (5 + 4 + 4 + 6) + 7 + 2);
        costs("list [break] b", 5 + 14 + 4 + (5 + 5 + 5 + 6));
        costs("expr 1+22", 5 + 9 + 4 + 4 + 7 + (5 + 4) + 1 + 2 + 2);
        costs("expr (1)", 5 + 8 + 4 + 3 + 7 + (5 + 3) + 1 + 1);
        costs("expr 0&&123", 5 + 11 + 4 + 6 + 7 + (5 + 6) + 1 + 1);
        costs("expr true", 5 + 9 + 4 + 4 + 7 + (5 + 4) + 4 + 4);
        costs("expr {{ab}}", 5 + 11 + 4 + 4 + 7 + (5 + 4) + 2 + 2);
        costs("expr 1+", 5 + 7 + 4 + 2 + 7 + (5 + 2) + "no expression: 1+".length());
        costs("expr { 1 }", 5 + 10 + 4 + 3 + 7 + (5 + 1) + 1 + 1);
        costs("eval { list }", 5 + 13 + 4 + 6 + 7 + (5 + 4 + 4 + 6) + 0);
        costs("subst {a\\x41}", 5 + 13 + 5 + 5 + 7 + 2 + 2);
        costs("set m(k) v", 5 + 10 + 3 + 4 + 1 + 8 + 1);
        costs("set m(k) v;list $m(k)", 5 + 21 + (3 + 4 + 1 + 8 + 1) + 4 + 1 + 1 + 7 + 1);
        costs("catch {error ab}", 5 + 16 + 5 + 8 + 7 + (5 + 8 + 5 + 2 + 7 + 2) + 1);
        costs("proc p x {set x};p ab", 5 + 21 + (4 + 1 + 1 + 5 + 9) + (1 + 2 + 7 + (5 + 5 + 3 + 1 + 7 + 2) + 2));
        costs("if 1 {}", 5 + 7 + 2 + 1 + 0 + 8 + (5 + 1 + 1) + 5);
    }

    private static void workLimit() {
        Check check = new Check();
        check.meets("while 1 {}", 1);
        int rounds = (150000 - (5 + 10 + 5 + 1 + 8)) / 12;
        int rest = 150000 - (5 + 10 + 5 + 1 + 8) - 12 * rounds;
        int left = rest >= 6 ? rest - 6 : rest;
        left = rest >= 7 ? rest - 7 : left;
        check.counts(0, 150000 - left).counts(1, 1).counts(2, 2);
        check.meets("list", 1).counts(1, 0);

        check.fresh();
        check.gives("set x [string repeat a 3900]; list", "");
        for (int i = 0; i < 17; i++) {
            check.gives("set x; list", "");
        }
        int done = check.core.count(0);
        int each = 5 + 11 + 4 + 7 + 3900 + 4 + 6;
        check.gives("set x; list", "");
        check.counts(0, done + each);
        for (int i = 0; i < 15; i++) {
            check.run("set x; list");
        }
        int last = check.core.count(0);
        while (150000 - last >= each) {
            check.gives("set x; list", "");
            last += each;
        }
        check.counts(0, last);
        check.meets("set x; list", 1);
        check.counts(1, 1);
        Check.due("WORK grows up to what would be more", check.core.count(0) > last && check.core.count(0) <= 150000,
                true);
        int spare = 150000 - check.core.count(0);
        StringBuilder script = new StringBuilder();
        while (script.length() < spare - 5 && script.length() < 3900) {
            script.append(' ');
        }
        check.gives(script.toString(), "");
        check.counts(0, 150000 - spare + 5 + script.length());
    }

    private static void longTexts() {
        Check check = new Check();
        check.gives("set a [string repeat a 2000]; set b [string repeat b 2001]; list", "");
        check.gives("string length [string repeat a 4000]", "4000").meets("string repeat a 4001", 2)
                .meets("string repeat aaa 9223372036854775807", 2);
        check.meets("list $a$b", 2).meets("set c \"$a$b\"", 2).meets("list $m($a$b)", 2)
                .meets("expr {\"$a$b\"}", 2).meets("subst {$a$b}", 2);
        check.meets("list $a $b", 2).meets("concat $a $b", 2).meets("eval $a $b", 2)
                .meets("expr $a $b", 2).meets("uplevel #0 $a $b", 2);
        check.meets("append a $b", 2).gives("string length $a", "2000").meets("lappend a $b", 2)
                .gives("llength $a", "1");
        check.meets("join [list $a $b] {}", 2).fresh();
        check.gives("set a [string repeat a 1999]; set b [string repeat b 2000]; string length [list $a $b]", "4000");
        check.gives("string length [concat $a $b]", "4000").gives("string length $a$b", "3999")
                .gives("string length x$a$b", "4000").meets("string length xx$a$b", 2);
        check.gives("string length $a${b}x", "4000").meets("string length $a${b}xx", 2)
                .meets("string length \"$a${b}x\\x41\"", 2);
        check.meets("set d [string repeat x 3990]; $d", 2).gives("string length $d", "3990")
                .meets("set $d$d", 2).meets("error [set none$d]", 2);
        check.fails("set d [string repeat x 3983]; $d", "no such command: " + Check.times("x", 3983))
                .meets("set e x$d; $e", 2);
        check.fresh().meets("set s [string repeat {; } 1500]; split $s {}", 2)
                .meets("list [string repeat \\{ 2001]", 2);
        check.fresh().meets("set x [string repeat a 3000]; list $x$x[puts no]", 2);
        check.due("OUT behind the part that was too long", check.out(), "");
        check.meets("list $x[puts yes]$x", 2);
        check.due("OUT ahead of the part that was too long", check.out(), "yes\n");
        check.meets("proc p args {}; p $x $x", 2).counts(3, 0);
    }

    private static void manyNames() {
        Check check = new Check();
        check.gives("for {set i 0} {$i < 99} {incr i} {set v$i 1}", "").counts(5, 100);
        check.meets("set one 1", 3).counts(5, 100).gives("set v5 2", "2").meets("set one(1) 1", 3)
                .meets("upvar 0 one v7", 3).meets("upvar 0 v1 one", 3);
        check.fails("set one", "no variable one").gives("info exists one", "0")
                .gives("unset v5; set v5 3", "3").gives("proc p {} {set one 1}; p", "1");
        check.fresh().gives("for {set i 0} {$i < 100} {incr i} {set m($i) 1}; array size m", "100")
                .meets("set m(x) 1", 3).meets("upvar 0 m(x) y", 3);
        check.gives("unset m(5); array size m", "99").meets("set m(x) 1", 3)
                .gives("set m(5) 1", "1").gives("unset m; set m(x) 1; array size m", "1");
        check.fresh().gives("for {set i 0} {$i < 112} {incr i} {proc p$i {} {}}", "").counts(4, 150)
                .meets("proc q {} {}", 3).counts(4, 150);
        check.gives("proc p1 {} {list new}; p1", "new").gives("rename p2 q", "")
                .gives("rename q {}; proc r {} {}", "").meets("proc s {} {}", 3);
        check.fails("proc s {{a b c}} {}", "no parameters: a b c");
        StringBuilder params = new StringBuilder();
        for (int i = 0; i < 100; i++) {
            params.append("{a").append(i).append(" 1} ");
        }
        check.fresh().gives("proc p {" + params + "} {info exists a99}; p", "1")
                .meets("proc q {" + params + "b} {}; q {*}[string repeat {1 } 101]", 3)
                .counts(3, 1);
    }

    private static void openCalls() {
        Check check = new Check();
        check.gives("proc f n {if {$n > 1} {f [expr {$n - 1}]} else {info level}}; f 40", "40").counts(3, 40);
        check.meets("f 41", 4).counts(3, 40).gives("info level", "0").gives("f 3", "3").counts(3, 3);
        check.gives("proc g n {if {$n > 1} {uplevel #0 [list g [expr {$n - 1}]]} else {info level}}; g 25", "1")
                .counts(3, 25);
    }

    private static void evaluations() {
        Check check = new Check();
        check.gives("list", "").counts(2, 1).gives("list [list]", "{}").counts(2, 2)
                .gives("set m(1) 1; list $m(1)", "1").counts(2, 2);
        check.gives("list $m([list $m(1)])", "1").counts(2, 4).gives("expr {$m(1)}", "1")
                .counts(2, 3).gives("expr 1", "1").counts(2, 2).gives("subst {a}", "a")
                .counts(2, 1);
        check.gives("set x \"a\"; set x \"b\"; subst a; subst [list b]; catch {subst {$none}}; catch {expr {$none}}; catch {list $m($none)}; list [list c]", "c")
                .counts(2, 3);
        // A procedure's level here has three in evaluation: its body, eval's script and that of if.
        check.fresh()
                .gives("proc f n {eval {if {$n > 1} {f [expr {$n - 1}]} else {list end}}}; f 32", "end")
                .counts(2, 97).counts(3, 32);
        check.gives("f 33", "end").counts(2, 100).meets("f 34", 4).counts(2, 100).counts(3, 33);
        // Here the deepest are a KEY, and an expression.
        check.fresh()
                .gives("set m(x) y; proc f n {eval {if {$n > 1} {f [expr {$n - 1}]} else {global m; list $m(x)}}}; f 32", "y")
                .counts(2, 98);
        check.meets("f 33", 4).counts(2, 100);
        check.gives("proc g n {eval {if {$n > 1} {g [expr {$n - 1}]} else {expr 1}}}; g 32", "1")
                .counts(2, 98).meets("g 33", 4).counts(2, 100);
    }

    private static void nestedReading() {
        Check check = new Check();
        String open = Check.times("[list ", 20);
        String close = Check.times("]", 20);
        check.gives("set a " + open + "x" + close, "x")
                .meets("set a " + open + "[list x]" + close, 4).meets("set a {*}" + open + "[", 4);
        check.gives("subst {" + open + "x" + close + "}", "x").meets("subst {" + open + "[list x]" + close + "}", 4);
        check.gives("expr {" + open + "1" + close + "}", "1").meets("expr {" + open + "[list 1]" + close + "}", 4);
        check.gives("set m(x) x; set a " + Check.times("$m(", 20) + "x" + Check.times(")", 20), "x");
        check.meets("set a " + Check.times("$m(", 21) + "x" + Check.times(")", 21), 4);
        check.meets("set a " + Check.times("[list $m(", 10) + "$m(x)" + Check.times(")]", 10), 4);
        check.gives("set a " + Check.times("[list $m(", 10) + "x" + Check.times(")]", 10), "x");
        check.gives("set a {" + Check.times("[", 50) + "}", Check.times("[", 50))
                .gives("list " + Check.times("[list]", 30), "{}");
        check.prints("puts a; set b " + open + "[list x]" + close, "a\n")
                .fails("list {a}b " + open + "[list", "more behind brace");
    }

    private static void nestedExpressions() {
        Check check = new Check();
        check.gives("expr {" + Check.times("(", 20) + "1" + Check.times(")", 20) + "}", "1")
                .meets("expr {" + Check.times("(", 21) + "1" + Check.times(")", 21) + "}", 4);
        check.gives("expr {" + Check.times("-", 20) + "1}", "1").meets("expr {" + Check.times("!", 21) + "1}", 4);
        check.gives("expr {" + Check.times("-1+", 50) + "0}", "-50")
                .gives("expr {" + Check.times("(1)+", 50) + "0}", "50");
        check.gives("expr {" + Check.times("0?1:", 20) + "2}", "2").meets("expr {" + Check.times("0?1:", 21) + "2}", 4);
        check.gives("expr {" + Check.times("1?", 20) + "2" + Check.times(":3", 20) + "}", "2")
                .meets("expr {" + Check.times("1?", 21) + "2" + Check.times(":3", 21) + "}", 4);
        check.gives("expr {" + Check.times("abs(", 20) + "1" + Check.times(")", 20) + "}", "1")
                .meets("expr {" + Check.times("max(", 21) + "1" + Check.times(")", 21) + "}", 4);
        check.gives("expr {" + Check.times("-(", 10) + "1" + Check.times(")", 10) + "}", "1")
                .meets("expr {" + Check.times("-(", 10) + "-1" + Check.times(")", 10) + "}", 4);
        check.meets("expr {" + Check.times("(", 21) + "}", 4)
                .fails("expr {1 2 " + Check.times("(", 21) + "}", "no expression: 1 2 " + Check.times("(", 21));
        check.gives("expr {" + Check.times("[expr (1)]*(", 18) + "1" + Check.times(")", 18) + "}", "1");
        String rows = "1||1&&1|1^1&1==1<1<<1+1*";
        check.gives("expr {" + Check.times(rows + "(", 20) + "1" + Check.times(")", 20) + "}", "1");
        check.gives("expr {" + Check.times("(1?1:2)+", 30) + "0}", "30")
                .gives("expr {max(" + Check.times("1?1:2,", 30) + "0)}", "1");
    }

    private static void stateBehindLimits() {
        Check check = new Check();
        check.meets("puts kept; set a 1; proc p {} {global b; set b 2; string repeat x 9999}; p; set c 3", 2);
        check.due("OUT behind a LIMIT", check.out(), "kept\n");
        check.gives("list $a $b [info exists c] [info level]", "1 2 0 0").gives("incr a", "2");
        check.meets("proc f {} {set l 1; f}; f", 4).gives("proc g {} {info exists l}; g", "0").counts(1, 3);
        check.meets("foreach x {1 2 3} {lassign {7 8} d e; string repeat y 4001}", 2).gives("list $x $d $e", "1 7 8");
        check.meets("set q [string repeat z 4001]", 2).gives("info exists q", "0")
                .gives("expr {1 + 1}", "2").gives("set s \"a[list b]c\"", "abc");
    }
}
