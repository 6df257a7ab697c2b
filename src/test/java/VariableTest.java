/** Section 2 of the document: variables, arrays, frames and links. */
public final class VariableTest {
    public static void main(String[] args) {
        texts();
        arrays();
        splitNames();
        unsetting();
        incrementing();
        arrayCommands();
        levels();
        links();
        linkErrors();
        linkedElements();
        frames();
        Check.finish();
    }

    private static void texts() {
        Check check = new Check();
        check.fails("set a", "no variable a").fails("list $a", "no variable a").fails("list ${a b}", "no variable a b");
        check.gives("set a 1", "1").gives("set a", "1").gives("set a {}", "").gives("set a", "");
        check.gives("set {} x; set {}", "x").counts(5, 2);
        check.fails("set a(1) 2", "a is no array").fails("set a(1)", "a is no array")
                .fails("list $a(1)", "a is no array");
        check.fails("unset a(1)", "a is no array").fails("incr a(1)", "a is no array")
                .fails("append a(1) x", "a is no array");
        check.counts(5, 2);
    }

    private static void arrays() {
        Check check = new Check();
        check.gives("set m(a) 1; set m(b) 2; set m(a)", "1").counts(5, 1);
        check.fails("set m", "m is an array").fails("set m 5", "m is an array").fails("list $m", "m is an array");
        check.fails("append m x", "m is an array").fails("incr m", "m is an array").fails("lappend m", "m is an array");
        check.fails("set m(c)", "no element m(c)").fails("set k {x y}; list $m($k)", "no element m(x y)");
        check.fails("list ${m(q)}", "no element m(q)").fails("set n(1)", "no variable n(1)")
                .fails("list $n($k)", "no variable n(x y)");
        check.fails("catch {list} m", "m is an array").fails("foreach m {1} {}", "m is an array");
    }

    private static void splitNames() {
        Check check = new Check();
        check.gives("set m() e; set m()", "e").gives("set (x) y; set (x)", "y").gives("array names {}", "x");
        check.gives("set a(b)c) v; array names a", "b)c").gives("set {a(b(c)} w; array get a", "b)c v b(c w");
        check.gives("set a(b)c t; set {q(} s; set ) r; list ${a(b)c} [set {q(}] [set )]", "t s r");
        check.gives("array names a", "b)c b(c").gives("array exists {q(}", "0");
        check.gives("set {z z(a b)} 1; array names {z z}", "{a b}");
    }

    private static void unsetting() {
        Check check = new Check();
        check.gives("unset", "").fails("unset a", "no variable a").gives("set a 1; unset a", "")
                .fails("set a", "no variable a");
        check.counts(5, 1).fails("unset a", "no variable a").gives("set a(1) x", "x").counts(5, 1);
        check.fails("unset a(2)", "no element a(2)").fails("unset b(2)", "no variable b(2)");
        check.gives("unset a(1); array exists a", "1").fails("set a(1)", "no element a(1)")
                .fails("unset a(1)", "no element a(1)");
        check.gives("unset a; array exists a", "0").fails("set a(1)", "no variable a(1)").gives("set a 5", "5");
        check.gives("set x 1; set y 2; set z 3", "3").fails("unset x none y", "no variable none");
        check.gives("list [info exists x] [info exists y]", "0 1").gives("unset y z; info exists z", "0");
    }

    private static void incrementing() {
        Check check = new Check();
        check.gives("incr k(x); incr k(x) 2; incr k(x) 3", "6")
                .gives("append k(y) a; append k(y) b; lappend k(y) c", "ab c");
        check.gives("incr a", "1").gives("incr a 5", "6").gives("incr a -10", "-4")
                .gives("incr m(x) 3", "3").gives("incr m(y)", "1");
        check.gives("unset a m(x); list [incr a] [incr m(x) 7]", "1 7").gives("array names m", "x y");
        check.fails("set t x; incr t", "no whole: x").fails("incr m(x) { }", "no whole:  ").gives("set m(x)", "7");
        check.fails("append none", "no variable none").gives("append s {} {}", "")
                .gives("append s", "").gives("append s a b", "ab").gives("set s", "ab");
    }

    private static void arrayCommands() {
        Check check = new Check();
        check.gives("list [array exists a] [array size a] [array names a] [array get a] [array unset a]",
                "0 0 {} {} {}");
        check.counts(5, 0);
        check.gives("array set a {x 1 {y z} 2 x 3}", "").gives("array get a", "x 3 {y z} 2").gives("array size a", "2");
        check.gives("array names a", "x {y z}").gives("array exists a", "1").counts(5, 1);
        check.fails("array set a {x}", "no pairs").fails("array set a(1) {x}", "no pairs")
                .fails("array set a(1) {x 1}", "a(1) is no array");
        check.fails("array set a(1) {}", "a(1) is no array").gives("array set b {}", "").counts(5, 1);
        check.fails("set t 1; array set t {x 1}", "t is no array").gives("array set t {}", "")
                .gives("array unset t; set t", "1");
        check.gives("list [array exists a(x)] [array size a(x)] [array names a(x)] [array get t] [array exists t]",
                "0 0 {} {} 0");
        check.gives("unset a(x); list [array size a] [array get a]", "1 {{y z} 2}");
        check.gives("set a(w) 4; set a(x) 5; array get a", "x 5 {y z} 2 w 4");
        check.gives("array unset a; array exists a", "0").gives("set a(k) 1; array names a", "k");
        check.gives("array unset a(k); set a(k)", "1");
        check.gives("array set e {a(b) 1 {} 2}; array get e", "a(b) 1 {} 2")
                .gives("set {e(a(b))}", "1").gives("set e()", "2");
    }

    private static void levels() {
        Check check = new Check();
        check.gives("info level", "0")
                .gives("proc l {} {info level}; proc m {} {list [info level] [l]}; list [l] [m]", "1 {1 2}");
        check.gives("proc u {} {uplevel 1 {info level}}; proc v {} {list [u] [uplevel #0 l] [uplevel 0 {info level}]}; v",
                "1 1 1");
        check.gives("proc w {} {uplevel #1 {set here 1}; set here}; proc x {} {w; info exists here}", "");
        check.fails("x", "no variable here");
        check.gives("proc up {} {uplevel 1 {uplevel 1 {info level}}}; proc up2 {} {up}; up2", "0");
        check.fails("uplevel 1 {list}", "no level: 1").fails("uplevel list", "no level: 1")
                .fails("uplevel #1 list", "no level: #1");
        check.gives("uplevel #0 list a", "a").gives("uplevel 0 list a b", "a b").gives("uplevel #00 {list c}", "c");
        check.fails("uplevel 99999999999999999999 list", "no level: 99999999999999999999")
                .fails("upvar x a b", "no level: x");
        check.fails("upvar # a b", "no level: #").fails("upvar -1 a b", "no level: -1")
                .fails("upvar {} a b", "no level: ");
        check.fails("upvar a b", "no level: 1").fails("upvar a b c d", "no level: 1")
                .fails("upvar #1 a b", "no level: #1");
        check.fails("proc y {} {uplevel #0 {upvar 1 a b}}; y", "no level: 1")
                .fails("proc z {} {uplevel #0 {upvar #1 a b}}; z", "no level: #1");
        check.gives("proc d {} {uplevel {set q 5}; uplevel set r 6}; d; list $q $r", "5 6");
        check.gives("proc e {} {uplevel #x list}; e", "")
                .fails("proc e {} {uplevel none list}; e", "no such command: none");
        check.gives("proc f {} {uplevel 1}; catch f m; set m", "no such command: 1");
    }

    private static void links() {
        Check check = new Check();
        check.gives("proc p {} {upvar 1 a x b y; set x 5; unset y}; set b 1; p; list $a [info exists b]", "5 0");
        check.gives("proc q {} {global a z; incr a; set z new}; q; list $a $z", "6 new");
        check.gives("upvar 0 a c; set c 9; set a", "9").gives("unset a; info exists c", "0")
                .gives("set c 2; set a", "2");
        check.gives("upvar 0 c d; set d 3; list $a $c $d", "3 3 3");
        check.gives("upvar 0 other d; set d 4; list $a $c $other", "3 3 4");
        check.gives("proc r {} {upvar 1 v v; set v 1; s; set v}; proc s {} {upvar 1 v w; incr w}; r", "2")
                .gives("set v", "2");
        check.gives("proc t {} {upvar #0 none n; info exists n}; t", "0").gives("info exists none", "0");
        check.gives("global anything a(1)", "").gives("uplevel #0 {global a(1)}", "");
        check.gives("proc g {} {upvar 1 l l; lappend l x; append l y; set l}; g", "xy").gives("set l", "xy");
    }

    private static void linkErrors() {
        Check check = new Check();
        check.gives("set k 1; set t 2", "2");
        check.fails("upvar 0 k k", "k is itself").fails("upvar 0 k t", "t is there already")
                .fails("upvar 0 k a(1)", "a(1) is no name");
        check.fails("upvar 0 new new", "new is itself").gives("info exists new", "0").counts(5, 3);
        check.gives("upvar 0 k link", "").fails("upvar 0 k link", "link is itself")
                .fails("upvar 0 link k", "k is itself");
        check.fails("upvar 0 link t", "t is there already");
        check.fails("upvar 0 k(1) x", "k is no array").counts(5, 4);
        check.fails("proc p {} {global k; global k}; p", "k is itself")
                .fails("proc q k {global k}; q 1", "k is there already");
        check.fails("proc r {} {global a(1)}; r", "a(1) is no name")
                .fails("proc s {} {set u 1; upvar 1 k u}; s", "u is there already");
        check.fails("proc s {} {upvar 1 k u t u2 k u}; s", "u is itself");
        check.gives("proc v {} {upvar 1 k u; upvar 1 t u; set u}; v", "2");
        check.gives("upvar 0 un1 un2 un3 un1; set un2 a; set un3 b; list $un1 $un2", "b a");
        check.gives("set arr(1) 2; catch {upvar 0 k arr} m; set m", "arr is there already");
        check.gives("unset arr; upvar 0 k arr; set arr", "1");
        check.fresh()
                .gives("set t 1; upvar 0 t l1; set n2 2; upvar 0 t l3; set n4 4; set n5 5; set n6 6; upvar 0 n4 l7; set n8 8; set n9 9", "9");
        check.fails("upvar 0 t n2", "n2 is there already")
                .gives("upvar 0 n5 l1 n6 l3 n2 l7; list $l1 $l3 $l7", "5 6 2");
        check.fails("upvar 0 t n4", "n4 is there already")
                .fails("upvar 0 t n8", "n8 is there already").gives("upvar 0 t l1; set l1", "1");
    }

    private static void linkedElements() {
        Check check = new Check();
        check.gives("set m(a) 1; upvar 0 m(a) e; incr e; set m(a)", "2");
        check.fails("set e(x) 1", "e is no array").fails("set e(x)", "e is no array");
        check.gives("unset e; array names m", "").fails("set e(x) 1", "e is no array")
                .fails("set e(x)", "no variable e(x)");
        check.fails("upvar 0 e(x) f", "e is no array").fails("incr e(x)", "e is no array")
                .fails("array set e {a 1}", "e is no array");
        check.gives("set e 5; array get m", "a 5");
        check.gives("upvar 0 n(k) g; list [array exists n] [array size n] [info exists n(k)]", "1 0 0");
        check.gives("set g 1; set n(j) 2; array names n", "k j");
        check.gives("unset m; info exists e", "0").gives("set m(a) 9; info exists e", "0")
                .gives("set e 7; list $m(a) $e", "9 7");
        check.gives("upvar 0 m arr; set arr(b) 1; array names m", "a b").gives("array unset arr; array exists m", "0");
        check.gives("proc p {} {upvar 1 m(z) q; set q 1}; p; array get m", "z 1");
        check.gives("list [array exists e] [array size e]", "0 0");
    }

    private static void frames() {
        Check check = new Check();
        check.gives("proc p {} {set a 1; set b(1) 2; list}; p; list [info exists a] [info exists b]", "0 0")
                .counts(5, 0);
        check.fails("proc q {} {set a}; p; q", "no variable a")
                .gives("proc r {} {list [info exists a] [array exists b] [set b x]}; p; r", "0 0 x");
        check.gives("proc s {} {upvar 1 g h; set h 1}; proc t {} {set h 2; set g 3; list $h $g}; s; t", "2 3")
                .gives("set g", "1");
        check.gives("proc rec n {set v $n; if {$n > 0} {rec [expr {$n - 1}]}; set v}; rec 5", "5");
    }
}
