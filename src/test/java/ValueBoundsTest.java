/** Section 1 of the document, LIST, WHOLE and INDEX: each sentence that names a boundary. */
public final class ValueBoundsTest {
    public static void main(String[] args) {
        listsTakenApart();
        elementsNotBraced();
        noLists();
        listsMade();
        listsMadeWithBackslashes();
        wholes();
        wholesAtTheirEnds();
        reckoning();
        indexes();
        Check.finish();
    }

    /** A list has so many elements, and the first of them is this. */
    private static void has(Check check, String list, int number, String first) {
        check.gives("llength " + Check.quoted(list), Integer.toString(number));
        check.gives("lindex " + Check.quoted(list) + " 0", first);
    }

    private static void listsTakenApart() {
        Check check = Check.of("A LIST is a text: ELEMENTS with WHITE between.");
        has(check, "", 0, "");
        has(check, " \t\n\u000b\f\r", 0, "");
        has(check, "a", 1, "a");
        has(check, "\ra\u000bb\f\nc\t d ", 4, "a");
        has(check, "a\bb\u000ec\u001fd!e", 1, "a\bb\u000ec\u001fd!e");

        check = Check.of("An element begins with { : up to the } that closes it (as BRACED, but all stands as it is)");
        has(check, "{}", 1, "");
        has(check, "{a {b} c} d", 2, "a {b} c");
        has(check, "{a\\} b} c", 2, "a\\} b");
        has(check, "{a\\{ b} c", 2, "a\\{ b");
        has(check, "{a\\\\} c", 2, "a\\\\");
        has(check, "{a\\\n  b\\x41}", 1, "a\\\n  b\\x41");

        check = Check.of("or \" : up to the next \"");
        has(check, "\"\"", 1, "");
        has(check, "\"a {b\" c", 2, "a {b");
        has(check, "\"a\" \"b\"", 2, "a");

        check = Check.of("behind these must come WHITE or the end");
        for (String element : new String[] {"{a}", "\"a\""}) {
            has(check, element, 1, "a");
            for (String white : new String[] {"\t", "\n", "\u000b", "\f", "\r", " "}) {
                has(check, element + white + "b", 2, "a");
            }
            for (String other : new String[] {"b", "{b}", "\"b\"", "}", "\\ ", "\b", "\u000e", "\u001f", "!"}) {
                check.fails("llength " + Check.quoted(element + other), "no list");
            }
        }

        check = Check.of("else up to WHITE.");
        has(check, "a{b c}", 2, "a{b");
        has(check, "a\"b c\"", 2, "a\"b");
        has(check, "} {a}", 2, "}");
        has(check, "a$b[c];#d e", 2, "a$b[c];#d");
    }

    private static void elementsNotBraced() {
        Check check = Check.of("In those that are not braced \\ goes as in PARTS (so \\ and \" is no end).");
        has(check, "\"a\\\"b\" c", 2, "a\"b");
        has(check, "a\\ b c", 2, "a b");
        has(check, "\\{ b", 2, "{");
        has(check, "\\\"a b", 2, "\"a");
        has(check, "\\a\\b\\f\\n\\r\\t\\v b", 2, "\u0007\b\f\n\r\t\u000b");
        has(check, "\\101\\x42\\7 b", 2, "AB\u0007");
        has(check, "a\\\n \t b c", 2, "a b");
        has(check, "\"a\\\n \t b\" c", 2, "a b");
        has(check, "a\\", 1, "a\\");
        has(check, "\\", 1, "\\");
        has(check, "\\\\ b", 2, "\\");
    }

    private static void noLists() {
        Check check = Check.of("What is no list: error \"no list\".");
        for (String text : new String[] {"{", "a {b", "{a\\}", "{{}", "\"", "\"a", "\"a\\\"", "a \"b c", "{a}b",
                "\"a\"b", "{a} {b}c"}) {
            String word = Check.quoted(text);
            check.fails("llength " + word, "no list").fails("lindex " + word + " x", "no list")
                    .fails("lrange " + word + " 0 0", "no list")
                    .fails("lreverse " + word, "no list");
            check.fails("lsearch " + word + " a", "no list").fails("lsort " + word, "no list")
                    .fails("lassign " + word + " v", "no list").fails("join " + word, "no list");
            check.fails("list {*}" + word, "no list")
                    .fails("set v " + word + ";lappend v", "no list")
                    .fails("foreach a " + word + " {}", "no list")
                    .fails("foreach " + word + " {} {}", "no list");
            check.fails("switch a " + word, "no list").fails("array set w " + word, "no list")
                    .fails("expr {1 in " + word + "}", "no list")
                    .fails("expr {1 ni " + word + "}", "no list");
            check.fails("proc p " + word + " {}", "no list").fresh();
        }
    }

    private static void listsMade() {
        Check check = Check.of("one that is empty is {}");
        check.gives("list {}", "{}").gives("list {} {}", "{} {}").gives("list", "");

        check = Check.of("one without WHITE, \" { } [ ] $ ; \\ and without # as its first byte is itself");
        check.gives("list a# a#b " + Check.quoted("\u0001\b\u000e\u001f!%&'()*+,-./:<=>?@^_`|~\u007f\u0080\u00ff"),
                "a# a#b \u0001\b\u000e\u001f!%&'()*+,-./:<=>?@^_`|~\u007f\u0080\u00ff");
        for (char c : "\t\n\u000b\f\r \"[]$;".toCharArray()) {
            check.gives("list " + Check.quoted("a" + c), "{a" + c + "}");
            check.gives("list " + Check.quoted(String.valueOf(c)), "{" + c + "}");
        }
        check.gives("list \\# #a", "{#} {#a}").gives("list \\{\\} a{}b", "{{}} {a{}b}").gives("list \\\\", "\\\\");

        check = Check.of("one without \\ whose braces go by pairs (at no place more } than { ahead) is put in braces");
        check.gives("list {a b}", "{a b}").gives("list {{}}", "{{}}")
                .gives("list {a{b{c}}d}", "{a{b{c}}d}").gives("list \\{\\}\\{\\}", "{{}{}}");
        check.gives("list \\{", "\\{").gives("list \\}", "\\}").gives("list \\}\\{", "\\}\\{")
                .gives("list \\{\\}\\}\\{", "\\{\\}\\}\\{").gives("list \\{\\{\\}", "\\{\\{\\}");

        check = Check.of("One blank (32) stands between.");
        check.gives("list a  b\tc", "a b c").gives("lrange \" a\\tb\\n c \" 0 end", "a b c")
                .gives("lappend v a b", "a b").gives("string length [list a b]", "3");
    }

    private static void listsMadeWithBackslashes() {
        Check check = Check.of("else each of these bytes, and a # ahead, gets a \\ (10 is \\n, 9 \\t, 11 \\v, 12 \\f, 13 \\r).");
        check.gives("list " + Check.quoted("\\ \t\n\u000b\f\r\"{}[]$;a"),
                "\\\\\\ \\t\\n\\v\\f\\r\\\"\\{\\}\\[\\]\\$\\;a");
        check.gives("list " + Check.quoted("#\\#"), "\\#\\\\#")
                .gives("list " + Check.quoted("\\#"), "\\\\#")
                .gives("list " + Check.quoted("#{"), "\\#\\{");
        check.gives("list " + Check.quoted("a\\b"), "a\\\\b")
                .gives("list " + Check.quoted("} \u0080\u00ff"), "\\}\\ \u0080\u00ff")
                .gives("list " + Check.quoted("{}\\"), "\\{\\}\\\\");
        StringBuilder all = new StringBuilder("}");
        for (int c = 0; c < 256; c++) {
            all.append((char) c);
        }
        check.fresh().gives("set x " + Check.quoted(all.toString()) + ";lindex [list $x] 0", all.toString());
        check.fresh().gives("set x " + Check.quoted(all.toString()) + ";set y [list a $x];lappend y b;lindex $y 1",
                all.toString());
    }

    private static void wholes() {
        Check check = Check.of("WHITE around, perhaps + or -, then digits, or 0x and digits 0-9a-fA-F, one at least");
        String[][] wholes = {{"0", "0"}, {"7", "7"}, {"007", "7"}, {"+7", "7"}, {"-7", "-7"},
                {" \t\n\u000b\f\r7\r\f\u000b\n\t ", "7"}, {"0x0", "0"}, {"0x1f", "31"},
                {"0xAF", "175"}, {"-0x10", "-16"}, {"+0xa", "10"}, {"-0", "0"}, {" -5 ", "-5"}, {"09", "9"},
                {"0x00000000000000000000001", "1"}};
        for (String[] row : wholes) {
            check.fresh().gives("set v " + Check.quoted(row[0]) + ";incr v 0", row[1]);
        }
        String[] others = {"", " ", "+", "-", "0x", "+0x", "x", "a", "7a", "a7", "--7", "+-7", "- 7", "7 7", "0X1",
                "0xg", "0x-1", "1.0", "1e3", "\b7", "7\u000e", "7\u001f", "0b1",
                "true", "/", ":", "0x/", "0x:", "0x@", "0xG", "0x`", "7-", "00x1", "1_0"};
        for (String text : others) {
            check.fresh().fails("set v " + Check.quoted(text) + ";incr v 0", "no whole: " + text);
        }

        check = Check.of("Else: error \"no whole: TEXT\".");
        check.fails("incr v { x }", "no whole:  x ").fails("string repeat a {}", "no whole: ")
                .fails("lsort -integer {1 b}", "no whole: b")
                .fails("expr {\"a\"+1}", "no whole: a");

        check = Check.of("It is written as digits, with - ahead.");
        check.gives("incr v +0x0F", "15").gives("incr v -0017", "-2").gives("set v", "-2")
                .gives("incr v 2", "0").gives("expr {-0}", "0")
                .gives("expr { 0x7fffffffffffffff }", "9223372036854775807");
        check.gives("expr {\" -000 \"}", "0")
                .gives("expr {-9223372036854775807-1}", "-9223372036854775808")
                .gives("expr {10*10}", "100").gives("expr {0-10}", "-10");
    }

    private static void wholesAtTheirEnds() {
        Check check = Check.of("its value is from -2^63 to 2^63 - 1.");
        String most = "9223372036854775807";
        String least = "-9223372036854775808";
        String[][] wholes = {{most, most}, {"+" + most, most}, {"0000" + most, most}, {least, least},
                {"-0009223372036854775808", least}, {"0x7fffffffffffffff", most},
                {"-0x8000000000000000", least}, {"0x00007FFFFFFFFFFFFFFF", most}, {"-0x7fffffffffffffff", "-" + most},
                {"9223372036854775799", "9223372036854775799"}};
        for (String[] row : wholes) {
            check.fresh().gives("set v {" + row[0] + "};incr v 0", row[1]);
        }
        String[] others = {"9223372036854775808", "+9223372036854775808", "-9223372036854775809", "0x8000000000000000",
                "-0x8000000000000001", "18446744073709551616",
                "9223372036854775810", "99999999999999999999", "-18446744073709551615", "0xffffffffffffffff",
                "0x10000000000000000", "10000000000000000000000000", "-92233720368547758080"};
        for (String text : others) {
            check.fresh().fails("set v {" + text + "};incr v 0", "no whole: " + text);
        }
    }

    private static void reckoning() {
        Check check = Check.of("All reckoning wraps at 64 bits.");
        check.gives("set v 9223372036854775806;incr v", "9223372036854775807")
                .gives("incr v", "-9223372036854775808").gives("incr v -1", "9223372036854775807");
        check.gives("expr {9223372036854775807+9223372036854775807}", "-2")
                .gives("expr {-9223372036854775807-2}", "9223372036854775807");
        check.gives("expr {4611686018427387904*2}", "-9223372036854775808")
                .gives("expr {4611686018427387904*4}", "0")
                .gives("expr {3037000500*3037000500}", "-9223372036709301616");
        check.gives("expr {-(-9223372036854775807-1)}", "-9223372036854775808")
                .gives("expr {abs(-9223372036854775807-1)}", "-9223372036854775808");
        check.gives("expr {(-9223372036854775807-1)/-1}", "-9223372036854775808")
                .gives("expr {(-9223372036854775807-1)%-1}", "0")
                .gives("expr {1<<63}", "-9223372036854775808");
    }

    private static void indexes() {
        Check check = Check.of("An INDEX of bytes or elements: a WHOLE; or end, the last one; or end- and digits, so many ahead of that");
        String[][] places = {{"0", "a"}, {"2", "c"}, {"3", ""}, {"-1", ""}, {"+1", "b"}, {" 0x2 ", "c"}, {"end", "c"},
                {"end-0", "c"}, {"end-2", "a"}, {"end-3", ""}, {"end-002", "a"},
                {"9223372036854775807", ""}, {"-9223372036854775808", ""}, {"4294967296", ""}, {"4294967297", ""},
                {"end-4294967296", ""}, {"end-4294967298", ""}, {"end-99999999999999999999999", ""}, {"-4294967295",
                ""}};
        for (String[] row : places) {
            check.gives("lindex {a b c} {" + row[0] + "}", row[1]).gives("string index abc {" + row[0] + "}", row[1]);
        }
        check.gives("set l {a b c d e f g h i j k l};lindex $l end-10", "b").gives("lindex $l end-11", "a")
                .gives("lindex $l end-12", "").gives("lindex $l 10", "k").gives("lindex $l end-100", "");
        check.gives("lindex {} end", "").gives("lindex {} 0", "").gives("string index {} end", "")
                .gives("lindex {} end-0", "");

        check = Check.of("else error \"no index: TEXT\"; 0 is the first.");
        String[] others = {"", "x", "End", "en", "end-", "end-x", "end-1x", "end--1", "end+1", "end-0x1", "end- 1",
                " end", "end ", "1-1", "9223372036854775808", "end-1 ", "2end", "endx"};
        for (String text : others) {
            String word = Check.quoted(text);
            check.fails("lindex {a b} " + word, "no index: " + text)
                    .fails("string index ab " + word, "no index: " + text)
                    .fails("lrange {a b} " + word + " 0", "no index: " + text);
            check.fails("lrange {a b} 0 " + word, "no index: " + text)
                    .fails("string range ab " + word + " 0", "no index: " + text)
                    .fails("string range ab 0 " + word, "no index: " + text).fresh();
        }
        check.gives("lindex {a b} 0", "a").gives("string index ab 0", "a")
                .fails("lrange {a b} x y", "no index: x")
                .fails("string range ab x y", "no index: x").fails("lindex {} x", "no index: x");
    }
}
