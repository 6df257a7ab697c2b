/** Section 1 of the document: lists, wholes and indexes, and the commands on them. */
public final class ListTest {
    public static void main(String[] args) {
        readLists();
        noLists();
        makeLists();
        wholes();
        indexes();
        listCommands();
        sorting();
        textCommands();
        Check.finish();
    }

    private static void readLists() {
        Check check = new Check();
        check.gives("llength {}", "0").gives("llength \" \\t\\n\\v\\f\\r \"", "0");
        check.gives("llength \" a\\tb\\nc\\vd\\fe\\rf \"", "6");
        check.gives("lindex {a {b {c} d} e} 1", "b {c} d").gives("lindex {a {b\\}c} d} 1", "b\\}c");
        check.gives("lindex {{a\\\n b}} 0", "a b").gives("set l \"{a\\\\\\n b}\"; lindex $l 0", "a\\\n b");
        check.gives("lindex {a \"b c\" d} 1", "b c").gives("lindex {\"a\\\"b\" c} 0", "a\"b");
        check.gives("lindex {\"\\x41\\n\\101\"} 0", "A\nA").gives("lindex {\"\" b} 0", "");
        check.gives("lindex {a\\ b c} 0", "a b").gives("lindex {\\x41\\{ b} 0", "A{");
        check.gives("lindex \"a\\\\\" 0", "a\\").gives("set l \"a\\\\\\n \\tb c\"; lindex $l 0", "a b");
        check.gives("lindex {a{b c\"d e}f} 0", "a{b").gives("set l {a\"b {c} $d [e]}; llength $l", "4");
        check.gives("lindex {a \"{b} c\"} 1", "{b} c");
    }

    private static void noLists() {
        Check check = new Check();
        check.fails("llength \\{", "no list").fails("llength \"{a} {b\"", "no list");
        check.fails("llength {\"a}", "no list").fails("llength {\"a\\\"}", "no list");
        check.fails("llength {{a}b}", "no list").fails("llength {\"a\"b}", "no list");
        check.fails("llength {{a}\"b\"}", "no list").fails("lindex \"a {\" 0", "no list");
        check.fails("lindex {a {b}c} x", "no list").fails("llength \"{a\\\\}\"", "no list");
        check.fails("lreverse \\{", "no list").fails("lrange \\{ 0 1", "no list").fails("lsearch \\{ a", "no list");
        check.fails("lsort \\{", "no list").fails("lassign \\{ a", "no list").fails("join \\{", "no list");
        check.fails("lappend x \\{; lappend x y; set z \\{; lappend z a", "no list");
        check.fails("foreach \\{ a {}", "no list").fails("foreach a \\{ {}", "no list");
        check.fails("switch a \\{", "no list").fails("array set a \\{", "no list");
        check.fails("proc p \\{ {}", "no list").fails("expr {1 in \"\\{\"}", "no list");
    }

    private static void makeLists() {
        Check check = new Check();
        check.gives("list", "").gives("list {}", "{}").gives("list {} {}", "{} {}");
        check.gives("list a b.c - * ( ) ! ' #", "a b.c - * ( ) ! ' {#}");
        check.gives("list a# #a", "a# {#a}");
        check.gives("list {a b} \"\\t\" \"\\v\" a\\ b", "{a b} {\t} {\u000b} {a b}");
        check.gives("list {$a} {[b]} ] {;} {\"} a\\\"b", "{$a} {[b]} {]} {;} {\"} {a\"b}");
        check.gives("list {a{b}c} {{}} {{a} b}", "{a{b}c} {{}} {{a} b}");
        check.gives("list \\{ \\} \\}\\{ a\\{b", "\\{ \\} \\}\\{ a\\{b");
        check.gives("list \\\\ a\\\\b {a\\ b}", "\\\\ a\\\\b a\\\\\\ b");
        check.gives("list \\#\\{ \\{\\# \\#\\\\", "\\#\\{ \\{# \\#\\\\");
        check.gives("list \"\\{\\n\\t\\v\\f\\r \\$\\[\\]\\\"\\;\"", "\\{\\n\\t\\v\\f\\r\\ \\$\\[\\]\\\"\\;");
        check.gives("list \\x80\\xff\\x00\\x07", "\u0080\u00ff\u0000\u0007");
        check.gives("set l [list \\{ {a b} {} \\\\ \\# \"\\n\\}\"]; list {*}$l", "\\{ {a b} {} \\\\ {#} \\n\\}");
        check.gives("lindex [list a \"\\n\\} \\\\x\"] 1", "\n} \\x");
    }

    private static void wholes() {
        Check check = new Check();
        check.gives("incr a 007", "7").gives("set a \" +12\\t\"; incr a 0", "12").gives("set a -0; incr a 0", "0");
        check.gives("set a 0x1fF; incr a 0", "511").gives("set a -0x10; incr a 0", "-16");
        check.gives("set a 9223372036854775807; incr a", "-9223372036854775808");
        check.gives("set a -9223372036854775808; incr a -1", "9223372036854775807");
        check.gives("set a -0x8000000000000000; incr a 0", "-9223372036854775808");
        check.gives("set a 0x7fffffffffffffff; incr a 0", "9223372036854775807");
        check.gives("set a 00000000000000000000000000012; incr a 0", "12");
        String[] none = {"", " ", "+", "-", "0x", "-0x", "0xg", "0X1", "1a", "a", "1 2", "- 1", "--1", "1.0",
            "9223372036854775808", "-9223372036854775809", "0x8000000000000000", "0x10000000000000000",
            "18446744073709551616", "true"};
        for (String text : none) {
            check.fresh().fails("set a {" + text + "}; incr a", "no whole: " + text);
        }
        check.fails("set a x; incr a y", "no whole: x").fails("set a 1; incr a y", "no whole: y");
    }

    private static void indexes() {
        Check check = new Check();
        String[][] rows = {{"0", "a"}, {"1", "b"}, {"end", "c"}, {"end-0", "c"}, {"end-1", "b"}, {"end-2", "a"},
            {"end-3", ""}, {"-1", ""}, {"3", ""}, {" 1 ", "b"}, {"0x2", "c"}, {"end-99999999999999999999", ""},
            {"9223372036854775807", ""}, {"-9223372036854775808", ""}, {"end-0002", "a"}, {"4294967297", ""}};
        for (String[] row : rows) {
            check.gives("lindex {a b c} {" + row[0] + "}", row[1]);
            check.gives("string index abc {" + row[0] + "}", row[1]);
        }
        String[] none = {"", "x", "end-", "end-x", "end+1", "end--1", "END", " end", "end ", "end-1 ", "e", "1-1",
            "9223372036854775808"};
        for (String text : none) {
            check.fresh().fails("lindex {a b c} {" + text + "}", "no index: " + text);
            check.fails("string index abc {" + text + "}", "no index: " + text);
        }
        check.fails("lrange {a b} x y", "no index: x").fails("lrange {a b} 0 y", "no index: y");
        check.fails("string range ab x y", "no index: x").fails("string range ab 0 y", "no index: y");
    }

    private static void listCommands() {
        Check check = new Check();
        check.gives("lindex {} end", "").gives("lindex {} 0", "").gives("llength {a {b c}}", "2");
        check.gives("lrange {a {b c} d e} 1 2", "{b c} d").gives("lrange {a b c} -5 99", "a b c");
        check.gives("lrange {a b c} 2 1", "").gives("lrange {a b c} end-1 end", "b c").gives("lrange {} 0 end", "");
        check.gives("lrange {  a   \"b c\"  } 0 end", "a {b c}").gives("lrange {a b c} -3 -1", "")
                .gives("lrange {a b} 2 5", "");
        check.gives("lreverse {a {b c} {}}", "{} {b c} a").gives("lreverse {}", "");
        check.gives("lsearch {a b a} a", "0").gives("lsearch {a {b c}} {b c}", "1").gives("lsearch {a b} A", "-1");
        check.gives("lsearch {} {}", "-1").gives("lsearch {a {}} {}", "1").gives("lsearch {1 01} 01", "1");
        check.gives("lassign {a {b c} d e} x y", "d e").gives("list $x $y", "a {b c}");
        check.gives("lassign {a} x y z", "").gives("list $x $y $z", "a {} {}").gives("lassign { a  b }", "a b");
        check.gives("lassign {1 2} m(a) m(b); array get m", "a 1 b 2");
        check.fails("lassign {1 2} q m r", "m is an array").gives("list $q [info exists r]", "1 0");
        check.gives("concat", "").gives("concat a", "a")
                .gives("concat \" a  b \" {} { } \"\\tc\\n\" {d e}", "a  b c d e");
        check.gives("concat {a {b}} \"c d\\\\ \"", "a {b} c d\\");
        check.gives("join {a {b c} {}}", "a b c ").gives("join {a b c} {}", "abc")
                .gives("join {a b c} {, }", "a, b, c");
        check.gives("join {}", "").gives("join {a\\{ b} x", "a{xb");
        check.gives("split {a b\tc}", "a b c").gives("split \" a\\n\\nb\"", "{} a {} b");
        check.gives("split {a,b;c} {,;}", "a b c").gives("split abc {}", "a b c")
                .gives("split \"a \\{\" {}", "a { } \\{");
        check.gives("split {} ,", "").gives("split {} {}", "").gives("split , ,", "{} {}").gives("split abc x", "abc");
        check.gives("split {a b;c} {;}", "{a b} c").gives("split {a b} \\{", "{a b}");
        check.gives("lappend l", "").gives("lappend l a {b c}", "a {b c}").gives("lappend l", "a {b c}");
        check.gives("set l {  x   \"y z\" }; lappend l {}", "x {y z} {}").gives("set l", "x {y z} {}");
        check.gives("set l \" a  b\"; lappend l; set l", "a b");
    }

    private static void sorting() {
        Check check = new Check();
        check.gives("lsort {b a ab A {} 10 9}", "{} 10 9 A a ab b").gives("lsort {}", "").gives("lsort a", "a");
        check.gives("lsort \"\\xff \\x80 z\"", "z \u0080 \u00ff");
        check.gives("lsort -decreasing {b a c a}", "c b a a");
        check.gives("lsort -integer {10 9 -3 0x8 {  7}}", "-3 {  7} 0x8 9 10");
        check.gives("lsort -integer {2 0x1 01 1 +1 0}", "0 0x1 01 1 +1 2");
        check.gives("lsort -decreasing -integer {1 0x2 2 3 01}", "3 0x2 2 1 01");
        check.gives("lsort -integer -decreasing {1 2}", "2 1").gives("lsort -integer", "-integer");
        check.fails("lsort -integer {1 x y}", "no whole: x").fails("lsort -integer {1 2 z}", "no whole: z");
        check.fails("lsort -integer -integer {}", "wrong arguments: lsort");
        check.fails("lsort -x \\{", "wrong arguments: lsort").fails("lsort {a b} -integer", "wrong arguments: lsort");
        check.gives("lsort {e d c b a j i h g f o n m l k}", "a b c d e f g h i j k l m n o");
    }

    private static void textCommands() {
        Check check = new Check();
        check.gives("string length {}", "0").gives("string length \"a\\x00b\"", "3");
        check.gives("string range abcde 1 3", "bcd").gives("string range abc -2 1", "ab")
                .gives("string range abc 1 99", "bc");
        check.gives("string range abc 2 1", "").gives("string range abc end-1 end", "bc")
                .gives("string range {} 0 end", "");
        check.gives("string range abc 3 5", "").gives("string range abc -3 -1", "")
                .gives("string range abc -9223372036854775808 9223372036854775807", "abc");
        check.gives("string equal a a", "1").gives("string equal a A", "0")
                .gives("string equal 1 01", "0").gives("string equal {} {}", "1");
        check.gives("string compare a b", "-1").gives("string compare b a", "1").gives("string compare a a", "0");
        check.gives("string compare a ab", "-1").gives("string compare ab a", "1")
                .gives("string compare \\xff a", "1").gives("string compare 10 9", "-1");
        check.gives("string first b abcb", "1").gives("string first bc abcb", "1").gives("string first x abc", "-1");
        check.gives("string first {} abc", "-1").gives("string first abcd abc", "-1")
                .gives("string first abc abc", "0").gives("string first aab aaab", "1");
        check.gives("string repeat ab 3", "ababab").gives("string repeat ab 0", "").gives("string repeat ab -5", "");
        check.gives("string repeat {} 9223372036854775807", "").fails("string repeat ab x", "no whole: x");
        check.gives("string reverse abc", "cba").gives("string reverse {}", "");
        check.gives("string toupper aZz09\\xe4", "AZZ09\u00e4").gives("string tolower aZ\\[@", "az[@");
        check.gives("string trim \" \\t\\n\\v\\f\\ra b\\r \"", "a b")
                .gives("string trim \"  \"", "").gives("string trim \\x00", "\u0000");
    }
}
