/** Sections 3 and 4 of the document: codes, and the commands that evaluate scripts. */
public final class CodeTest {
    public static void main(String[] args) {
        codes();
        returning();
        procedures();
        procedureErrors();
        catching();
        evaluating();
        choosing();
        looping();
        rounds();
        switching();
        substituting();
        Check.finish();
    }

    private static void codes() {
        Check check = new Check();
        check.ends("list a; error b; list c", 1, "b").ends("break; error b", 3, "").ends("continue", 4, "");
        check.ends("error {}", 1, "").ends("set x [continue]", 4, "").ends("eval {eval break}", 3, "");
        check.ends("if 1 {return x}", 2, "x").ends("foreach a {1 2} {return $a}", 2, "1");
        check.ends("while 1 {error out}", 1, "out").ends("while {[break]} {}", 3, "")
                .ends("while {[continue]} {}", 4, "");
        check.ends("for {break} 1 {} {}", 3, "").ends("for {} {[break]} {} {}", 3, "")
                .ends("for {} 1 {continue} {}", 4, "");
        check.ends("for {} 1 {error n} {}", 1, "n").ends("foreach a [break] {}", 3, "")
                .ends("switch [continue] {}", 4, "");
        check.ends("set a 1; if {[return z]} {}", 2, "z").ends("uplevel #0 break", 3, "");
    }

    private static void returning() {
        Check check = new Check();
        check.ends("return", 2, "").ends("return a", 2, "a").ends("return -code", 2, "-code")
                .ends("return -code 0", 2, "");
        check.ends("return -code ok x", 2, "x").fails("return a b", "wrong arguments: return")
                .fails("return a b c", "wrong arguments: return");
        check.fails("return -code 1 2 3", "wrong arguments: return")
                .fails("return -code x", "no code: x")
                .fails("return -code 1000 a", "no code: 1000");
        check.fails("return -code -1", "no code: -1").fails("return -code {}", "no code: ")
                .fails("return -code OK", "no code: OK");
        check.gives("proc p {args} {return {*}$args}", "");
        check.gives("p", "").gives("p v", "v").gives("p -code ok v", "v").gives("p -code 0 v", "v")
                .gives("p -code { 0 } v", "v");
        check.ends("p -code error v", 1, "v").ends("p -code 1 v", 1, "v")
                .ends("p -code return v", 2, "v").ends("p -code 2 v", 2, "v");
        check.ends("p -code break v", 3, "v").ends("p -code 3", 3, "")
                .ends("p -code continue v", 4, "v").ends("p -code 0x4", 4, "");
        check.ends("p -code 5 v", 5, "v").ends("p -code 999 v", 999, "v");
        check.gives("proc q {args} {p {*}$args; list after}; q -code return v", "v")
                .gives("q -code 2 v", "v").gives("q v", "after");
        check.ends("q -code 7 v", 7, "v").fails("q -code 3 v", "break without loop")
                .fails("q -code 4", "continue without loop");
        check.gives("proc r {} {eval {return -code 2 w}; list no}; proc s {} {r; list no}; list [s]", "w");
        check.gives("proc t {} {catch {return -code 3 x} y; return $y}; t", "x");
        check.gives("proc u {} {p -code 2 in; list no}; list [catch u m] $m", "0 in");
    }

    private static void procedures() {
        Check check = new Check();
        check.gives("proc p {} {}", "").gives("p", "").gives("proc p {} {list a\nlist b}; p", "b");
        check.gives("proc p {a b} {list $b $a}; p 1 {2 3}", "{2 3} 1");
        check.gives("proc p {a {b x} {c {}}} {list $a $b $c}; list [p 1] [p 1 2] [p 1 2 3]",
                "{1 x {}} {1 2 {}} {1 2 3}");
        check.gives("proc p args {list $args [llength $args]}; list [p] [p a] [p {a b} {}]",
                "{{} 0} {a 1} {{{a b} {}} 2}");
        check.gives("proc p {a args} {list $a $args}; list [p 1] [p 1 2 3]", "{1 {}} {1 {2 3}}");
        check.gives("proc p {args a} {list $args $a}; p 1 2", "1 2")
                .gives("proc p {{args z}} {list $args}; list [p] [p y]", "z y");
        check.gives("proc p {{a 1} args} {list $a $args}; list [p] [p 2] [p 2 3]", "{1 {}} {2 {}} {2 3}");
        check.gives("proc p {a a} {list $a}; p 1 2", "2").gives("proc p { a  \"b c\" } {list $a $b}; p 1", "1 c");
        check.gives("proc list args {return mine}; list a", "mine").counts(4, 39)
                .gives("proc set args {return other}; set a", "other").counts(4, 39);
        check.fresh().gives("proc p {} {proc p {} {list new}; list old}; list [p] [p]", "old new");
        check.gives("proc p {} {rename p {}; list gone}; p", "gone").fails("p", "no such command: p");
        check.gives("proc {} {} {list empty}; {}", "empty").gives("proc {a b} {} {list blank}; {a b}", "blank");
        check.gives("proc f n {expr {$n < 2 ? 1 : $n * [f [expr {$n - 1}]]}}; f 20", "2432902008176640000");
        check.gives("info args f", "n")
                .gives("proc g {{a 1} b args} { x }; info args g", "a b args")
                .gives("info body g", " x ");
    }

    private static void procedureErrors() {
        Check check = new Check();
        check.gives("proc p {a {b 1}} {}; proc q {{a 1} b} {}", "");
        check.fails("p", "wrong arguments: p").fails("p 1 2 3", "wrong arguments: p")
                .fails("q 1", "wrong arguments: q").gives("q 1 2", "");
        check.gives("rename p {other name}", "").fails("{other name}", "wrong arguments: other name");
        check.fails("proc p {{a b c}} {}", "no parameters: a b c").fails("proc p {{}} {}", "no parameters: ");
        check.fails("proc p {a {{} 1}} {}", "no parameters: {} 1").fails("proc p a(1) {}", "no parameters: a(1)");
        check.fails("proc p {a {b(c) d}} {}", "no parameters: b(c) d")
                .fails("proc p {a {{b}c}} {}", "no parameters: {b}c");
        check.fails("proc p {a \\{ {x y z}} {}", "no parameters: {").fails("p 1", "no such command: p");
        check.fails("proc z {} break; z", "break without loop")
                .fails("proc z {} {list [continue]}; z", "continue without loop");
        check.fails("while 1 z", "continue without loop");
    }

    private static void catching() {
        Check check = new Check();
        check.gives("catch {list a} r", "0").gives("set r", "a").gives("catch {error b} r", "1").gives("set r", "b");
        check.gives("catch {return c} r", "2").gives("set r", "c").gives("catch break r", "3")
                .gives("set r", "").gives("catch continue", "4");
        check.gives("proc p {} {return -code 42 d}; catch p r", "42").gives("set r", "d").gives("catch {}", "0");
        check.gives("catch {list \"a}", "1").gives("catch {list {} \"a} m(x)", "1").gives("set m(x)", "missing quote");
        check.fails("catch {error e} m", "m is an array").gives("catch {catch {error e} m} f; set f", "m is an array");
        check.gives("catch {catch {error in} a; error out$a} b; set b", "outin");
        check.gives("catch {nothing} r; set r", "no such command: nothing");
        check.meets("catch {string repeat x 5000}", 2).meets("catch {catch {proc f {} f; f}}", 4);
    }

    private static void evaluating() {
        Check check = new Check();
        check.gives("eval list a b", "a b").gives("eval {list a} {b c}", "a b c")
                .gives("eval { } {}", "").gives("eval \"list a\\n\" { list b}", "a list b");
        check.gives("eval {set a 5; set b 6}", "6").gives("set s {list x}; eval $s", "x")
                .fails("eval {list \"}", "missing quote");
        check.gives("proc p {} {set l 1; eval {set l 2}; uplevel 1 {set l 3}; set l}; p; list [p] $l", "2 3");
        check.gives("proc q {} {uplevel 1 {return x}; list y}; q", "x")
                .ends("proc r {} {uplevel 1 break}; while 1 {list [r]}", 1, "break without loop");
    }

    private static void choosing() {
        Check check = new Check();
        check.gives("if 1 {list a}", "a").gives("if 0 {list a}", "")
                .gives("if 0 {list a} else {list b}", "b").gives("if 0 {list a} {list b}", "b");
        check.gives("if 1 then {list a} else {list b}", "a")
                .gives("if 0 then {list a} elseif 1 then {list c} else {list b}", "c");
        check.gives("if 0 {list a} elseif 0 {list b} elseif 1 {list c} d e f", "c").gives("if 0 {} elseif 0 {}", "");
        check.gives("if 1 {list a} too much here", "a").gives("if 1 {} elseif", "").gives("list x; if 1 {}", "");
        check.fails("if", "wrong arguments: if").fails("if 1", "wrong arguments: if")
                .fails("if 0", "wrong arguments: if").fails("if 1 then", "wrong arguments: if");
        check.fails("if 0 a else", "wrong arguments: if").fails("if 0 a b c", "wrong arguments: if")
                .fails("if 0 a else b c", "wrong arguments: if");
        check.fails("if 0 a elseif", "wrong arguments: if")
                .fails("if 0 a elseif 1", "wrong arguments: if")
                .fails("if 0 a elseif 0 then", "wrong arguments: if");
        check.fails("if {1 +} {}", "no expression: 1 +").fails("if {[error e]} {}", "e");
        check.fails("if 0 {list a} then", "no such command: then").prints("catch {if 0 {} {puts a} b}", "");
        check.gives("set a 0; if {[incr a] == 1} {set a}", "1").fails("if 0 a else else", "no such command: else");
    }

    private static void looping() {
        Check check = new Check();
        check.gives("set i 0; while {$i < 3} {incr i}", "").gives("set i", "3").gives("while 0 {error e}", "");
        check.prints("set i 0; while {$i < 5} {incr i; if {$i == 2} continue; if {$i == 4} break; puts $i}", "1\n3\n");
        check.prints("for {set i 0} {$i < 5} {incr i} {if {$i == 1} continue; if {$i == 3} break; puts $i}", "0\n2\n")
                .gives("set i", "3");
        check.gives("for {set i 0} {$i < 9} {incr i; if {$i == 4} break} {}; set i", "4")
                .gives("for {list a} 0 {} {}", "");
        check.gives("set i 0; while {[incr i] < 3} {list x}", "")
                .gives("set c {$i < 7}; while $c {incr i}; set i", "7");
        check.fails("while 1", "wrong arguments: while")
                .fails("while 1 2 3", "wrong arguments: while")
                .fails("for a b c", "wrong arguments: for");
        check.ends("proc p {} {return -code 9 v}; while 1 p", 9, "v");
        check.gives("proc p {} {return -code continue}; set i 0; while {[incr i] < 4} {p; error no}; set i", "4");
    }

    private static void rounds() {
        Check check = new Check();
        check.prints("foreach a {1 {2 3} {}} {puts <$a>}", "<1>\n<2 3>\n<>\n")
                .gives("foreach a {} {error e}", "").fails("set b", "no variable b");
        check.counts(5, 1).gives("foreach a {p q r} {}; set a", "r").counts(5, 1);
        check.prints("foreach {a b} {1 2 3} {puts $a,$b}", "1,2\n3,\n")
                .prints("foreach a {1 2 3} {b c} {x y} {puts $a$b$c}", "1xy\n2\n3\n");
        check.prints("foreach a {} b {1 2} {puts <$a>$b}", "<>1\n<>2\n")
                .prints("foreach {m(x) m(y)} {1 2} {puts [array get m]}", "x 1 y 2\n");
        check.prints("foreach a {1 2 3 4} {if {$a == 2} continue; if {$a == 4} break; puts $a}", "1\n3\n")
                .gives("set a", "4");
        check.prints("set l {1 2}; foreach a $l {set l {}; set a 9; puts $a}", "9\n9\n")
                .prints("foreach {a a} {1 2 3} {puts <$a>}", "<2>\n<>\n");
        check.fails("foreach {} {1} {}", "no names").fails("foreach a {1} {} {2} {}", "no names")
                .fails("foreach a 1", "wrong arguments: foreach");
        check.fails("foreach a 1 b {}", "wrong arguments: foreach")
                .fails("foreach {} \\{ {}", "no names").fails("foreach a \\{ {} 1 {}", "no list");
        check.prints("catch {foreach a {1 2} b \\{ {puts $a}}", "")
                .fails("foreach {n m} {1 2} {}", "m is an array").gives("set n", "1");
        check.ends("foreach a 1 {return -code 3 x}", 2, "x").ends("foreach a {1 2} {error $a}", 1, "1");
    }

    private static void switching() {
        Check check = new Check();
        check.gives("switch b {a {list 1} b {list 2} c {list 3}}", "2")
                .gives("switch x {a {list 1}}", "").gives("switch x {}", "");
        check.gives("switch x {a {list 1} default {list d}}", "d").gives("switch x {default {list d} a {list 1}}", "");
        check.gives("switch default {default {list d} a {list 1}}", "d")
                .gives("switch a {a - b - c {list 3} d {list 4}}", "3");
        check.gives("switch z {a - default {list d}}", "d")
                .gives("switch a {a - default {list d}}", "d")
                .gives("switch {} {{} {list e}}", "e");
        check.fails("switch a {a - b -}", "no body").fails("switch z {a {} default -}", "no body")
                .gives("switch c {a - b - c {} d -}", "");
        check.fails("switch a {a}", "no pairs").fails("switch z {a b c}", "no pairs")
                .fails("switch a b c", "wrong arguments: switch")
                .fails("switch a", "wrong arguments: switch");
        check.gives("switch a {a {list 1} a {list 2}}", "1").ends("switch a {a break}", 3, "")
                .gives("list k; switch q {r {list}}", "");
        check.gives("switch 1 {01 {list no} 1 {list yes}}", "yes");
    }

    private static void substituting() {
        Check check = new Check();
        check.gives("set a 5; set m(x) 6; subst {$a [list b c]\\x41 \\$a $m(x) ${a} {$a} \"; ] #}",
                "5 b cA $a 6 5 {5} \"; ] #");
        check.gives("subst {}", "").gives("subst {a\nb}", "a\nb")
                .gives("subst \"a\\\\\\n  b\"", "a b").gives("subst \\\\", "\\")
                .gives("subst {$}", "$");
        check.gives("set v {[list x] $a}; subst $v", "x 5").gives("subst {$v}", "[list x] $a");
        check.fails("subst {a [list}", "missing bracket").fails("subst \\x00\\[", "missing bracket")
                .gives("subst {a\\x00b}", "a\u0000b");
        check.fails("subst {[list {a}b]}", "more behind brace")
                .fails("subst {$m(}", "missing parenthesis")
                .fails("subst \"\\${a\"", "missing brace")
                .fails("subst {[list \"]}", "missing quote");
        check.fails("subst {$none}", "no variable none").ends("subst {a [break]}", 3, "")
                .ends("subst {[return x]}", 2, "x").fails("subst {[error e]}", "e");
        check.prints("catch {subst {[puts a] [list}}", "").prints("catch {subst {[puts a] $none [puts b]}}", "a\n");
        check.fails("subst", "wrong arguments: subst").fails("subst a b", "wrong arguments: subst");
    }
}
