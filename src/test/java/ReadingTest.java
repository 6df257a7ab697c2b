/** Section 1 of the document: how scripts are read and their words substituted. */
public final class ReadingTest {
    public static void main(String[] args) {
        commands();
        notes();
        bracedWords();
        quotedWords();
        bareWords();
        expandedWords();
        escapes();
        variables();
        scripts();
        errors();
        order();
        Check.finish();
    }

    private static void commands() {
        Check check = new Check();
        check.gives("", "").gives(" \t\n;; \\\n ; ", "");
        check.gives("set a 1;set b 2\nset c 3", "3");
        check.gives("  list  a\t b \\\n  c ;", "a b c");
        check.gives("list a\\\nb", "a b").gives("\\\nlist c", "c").gives(";\\\n\\\nlist d", "d")
                .gives("list e;\\\n", "e").gives("\\\n# note", "");
        check.gives("list a\n", "a").gives("list a;\n\n;", "a");
        // Bytes 11, 12 and 13 are WHITE, but no BLANKS.
        check.fails("list\r", "no such command: list\r");
        check.gives("string length a\u000bb\fc\r", "6");
        check.fails("{} a", "no such command: ");
        check.fails("\"no such\" a", "no such command: no such");
    }

    private static void notes() {
        Check check = new Check();
        check.gives("# list a", "").gives("list a # b", "a {#} b");
        check.gives("list a;# b [ { \"\nlist c", "c");
        check.gives("# a \\\n list b\nlist c", "c");
        check.gives("# a \\\\\nlist b", "b");
        check.gives("# a \\", "");
        check.gives(" ; # one\n # two\nlist d", "d");
        check.gives("list [# x ]\nlist e\n]", "e");
        check.fails("list [# x ]", "missing bracket");
        check.fails("list [list a; # x ]", "missing bracket");
    }

    private static void bracedWords() {
        Check check = new Check();
        check.gives("set a {a {b} c}", "a {b} c").gives("set a {}", "");
        check.gives("set a {$x [y] \\n \" ; \n}", "$x [y] \\n \" ; \n");
        check.gives("set a {\\}\\{}", "\\}\\{");
        check.gives("set a {a\\\n \t b}", "a b").gives("set a {a\\\nb\\\n\\\n}", "a b  ");
        check.gives("set a {a\\\\\n b}", "a\\\\\n b");
        check.gives("set a {\\\\}", "\\\\");
        check.gives("set a x{b}c", "x{b}c").gives("set a b}", "b}");
        check.gives("list {a}\\\nb", "a b").gives("list {a};list {b}\n", "b");
        check.gives("list [list {a}]", "a");
    }

    private static void quotedWords() {
        Check check = new Check();
        check.gives("set a \"b c;\nd ] }\"", "b c;\nd ] }").gives("set a \"\"", "");
        check.gives("set a \"x[list \"y z\"]w\"", "x{y z}w");
        check.gives("set a \"\\\"\"", "\"").gives("set a \"b\\\n\t c\"", "b c");
        check.gives("set {b(\" )} 1; set a \"$b(\" )\"", "1");
        check.gives("set a b\"c\"d", "b\"c\"d");
        check.gives("list [set a \"b]c\"]", "{b]c}");
    }

    private static void bareWords() {
        Check check = new Check();
        check.gives("set a ]", "]").gives("set a b]c", "b]c");
        check.gives("set a b[list c d]e", "bc de");
        check.gives("set a $", "$").gives("set a $+$", "$+$").gives("set a $(b)", "$(b)");
        check.gives("set a a#b", "a#b").gives("set a #", "#");
    }

    private static void expandedWords() {
        Check check = new Check();
        check.gives("list {*}{a {b c} d} e", "a {b c} d e");
        check.gives("set x {1 2}; list {*}$x {*}\"3 $x\" {*}[list 4 5]", "1 2 3 1 2 4 5");
        check.gives("list a {*}{} b", "a b").gives("{*}{}", "").gives("list a; {*}{}", "");
        check.gives("{*}{list a} b", "a b");
        check.gives("list {*}", "*").gives("list {*} a", "* a").gives("list {*};list {*}\\\nb", "* b");
        check.gives("list [list {*}]", "*").gives("list {*}]", "{]}").gives("list {*}{*}", "*");
        check.fails("list {*}{*}x", "more behind brace");
        check.gives("list {*}a\\ b", "a b").gives("llength [list {*}a\\ b]", "2");
        check.fails("list {*}\"{\"", "no list");
        check.prints("catch {list {*}\\{ [puts x]}; catch {list [puts y] {*}\\{ [puts z]}", "y\n");
    }

    private static void escapes() {
        Check check = new Check();
        check.gives("set a \\a\\b\\f\\n\\r\\t\\v", "\u0007\b\f\n\r\t\u000b");
        check.gives("set a \\101\\60\\7x\\0608\\1017", "A0\u0007x08A7");
        check.gives("set a \\400\\777\\377", "\u0000\u00ff\u00ff").gives("set a \\8\\9", "89");
        check.gives("set a \\x41\\x4\\x414\\x\\xg\\xAf", "A\u0004A4xxg\u00af");
        check.gives("set a \\\\\\$b\\[c\\]\\{\\;\\ d\\#", "\\$b[c]{; d#");
        check.gives("set a \\", "\\").gives("set a b\\", "b\\").gives("set a \\\u0000b\\\u00ff", "\u0000b\u00ff");
        check.gives("set a \"b\\\n \t\n c\"", "b \n c");
    }

    private static void variables() {
        Check check = new Check();
        check.gives("set azAZ09_ v; list $azAZ09_ $azAZ09_- $azAZ09_\\x60", "v v- v`")
                .gives("list $`$@$/$:", "{$`$@$/$:}");
        check.gives("set a 1; set b_2 3; list $a$b_2 $a.x $a-$a", "13 1.x 1-1");
        check.gives("set m(k) v; set m(k\\ l) w; set i k; list $m(k) $m($i) $m([set i]) $m(k\\x20l) $m($i l)",
                "v v v w w");
        check.gives("set {m(] ;\n\")} x; set y $m(] ;\n\")", "x");
        check.gives("set {m(\\x41)} raw; set m(A) sub; list $m(\\x41) ${m(\\x41)}", "sub raw");
        check.gives("set {a b} 5; list ${a b} ${a}x", "5 1x").gives("set {} e; list ${}", "e");
        check.gives("set n(m(k)) q; set o ${n(m(k))}", "q");
        check.gives("set m(a\\)b) z; set o $m(a\\)b)", "z");
        check.gives("set {p(a(b)} deep; set o $p(a(b)", "deep");
        check.gives("set m($) d; list $m($)", "d");
        check.gives("set a {$b [x]}; set c $a", "$b [x]");
    }

    private static void scripts() {
        Check check = new Check();
        check.gives("list [] a", "{} a").gives("set a [set b 1;set c 2]", "2");
        check.gives("set a [list b\nlist c\n]", "c").gives("set a [ ]", "");
        check.gives("set a x[list {]}]y", "x{]}y");
        check.gives("set a [set b [set c d]][set b]", "dd");
        check.ends("set m(1) 1; list $m([break])", 3, "").ends("list a$m(x[error e])b", 1, "e")
                .fails("list \"$m($none)\"", "no variable none");
        check.fails("list $m($m(2))", "no element m(2)").ends("subst {$m([return r])}", 2, "r")
                .ends("expr {$m([continue])}", 4, "");
        check.ends("list [break] [error x]", 3, "").ends("set a [return -code 5 x]", 2, "x");
    }

    private static void errors() {
        Check check = new Check();
        check.fails("list a\\\n{b", "missing brace").fails("list [list a\\\n\"b]", "missing quote");
        check.fails("list [\u0000]", "no such command: \u0000");
        check.fails("set a {b", "missing brace").fails("set a ${b", "missing brace");
        check.fails("set a {b\\}", "missing brace").fails("set a {b\\", "missing brace");
        check.fails("set a [b", "missing bracket").fails("set a [b \"c]", "missing quote");
        check.fails("set a \"b", "missing quote").fails("set a \"[b", "missing bracket");
        check.fails("set a \"[b {c", "missing brace").fails("set a \"$b(c\"", "missing parenthesis");
        check.fails("set a $b([c)", "missing bracket").fails("set a [b $c(d]", "missing parenthesis");
        check.fails("set a \"b\\\"", "missing quote").fails("set a $b(\\)", "missing parenthesis");
        check.fails("set a [b\\]", "missing bracket");
        check.fresh().fails("set a {b}c", "more behind brace").fails("set a {b}\"", "more behind brace");
        check.fails("set a \"b\"c", "more behind quote").fails("set a [b {c}d", "more behind brace");
        check.fails("set a {b}]", "more behind brace").fails("set a \"b\"{ [", "more behind quote");
        check.fails("set a [b \"c\"d]", "more behind quote").fails("list a {b}c {", "more behind brace");
    }

    private static void order() {
        Check check = new Check();
        check.prints("puts a\nputs [puts b] {", "a\n");
        check.prints("puts [puts a; puts b] c\nputs d", "a\nb\n");
        check.prints("list [puts 1][puts 2] [puts 3]; puts 4", "1\n2\n3\n4\n");
        check.prints("puts a; nothing; puts b", "a\n");
        check.prints("puts a\nputs [puts b; puts \"c]", "a\n");
        check.prints("catch {list [puts a] $none [puts b]}", "a\n");
    }
}
