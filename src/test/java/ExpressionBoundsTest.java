/** Section 5 of the document, EXPRESSIONS: each sentence that names a boundary. */
public final class ExpressionBoundsTest {
    public static void main(String[] args) {
        readWhole();
        white();
        rows();
        rowsInPairs();
        rowsFromTheLeft();
        choosing();
        numbers();
        operands();
        functions();
        whatCannotStand();
        words();
        values();
        wantingWholes();
        shifting();
        dividing();
        comparing();
        bytes();
        elements();
        truths();
        notWorked();
        results();
        Check.finish();
    }

    /** An expression gives a result. */
    private static Check is(Check check, String expression, String result) {
        return check.gives("expr {" + expression + "}", result);
    }

    private static Check refused(Check check, String expression) {
        return check.fresh().fails("expr " + Check.quoted(expression), "no expression: " + expression.strip());
    }

    private static void readWhole() {
        Check check = Check.of("EXPRESSIONS are read whole, then worked.");
        check.fails("expr {[puts a]+}", "no expression: [puts a]+")
                .fails("expr {[puts a] + 1 1}", "no expression: [puts a] + 1 1")
                .fails("expr {[puts a] + \"b}", "missing quote")
                .fails("expr {[puts a] $}", "no expression: [puts a] $")
                .fails("expr \"\\[puts a\\] + \\[\"", "missing bracket");
        Check.due("OUT of what is not read whole", check.out(), "");
        check.fails("expr {1/0+[puts a]}", "divided by 0");
        Check.due("OUT of what is not worked any more", check.out(), "");
        check.fails("expr {[puts a]+1/0}", "divided by 0");
        Check.due("OUT of what is worked ahead", check.out(), "a\n");
    }

    private static void white() {
        Check check = Check.of("WHITE may stand between.");
        is(check, " \t1\n+\r2 ", "3");
        check.gives("expr " + Check.quoted("\t\n\u000b\f\r 1\u000b\f*\r\n2\t"), "2")
                .gives("expr " + Check.quoted("max\u000b(\f1 ,\t2\n)"), "2")
                .gives("expr " + Check.quoted("- \t! \n0"), "-1").gives("expr 1+2*3", "7")
                .gives("expr {(1)?(2):(3)}", "2").gives("expr {\"a\"eq\"a\"}", "1")
                .gives("expr {{a}in{a}}", "1");
        for (String other : new String[] {"\b", "\u000e", "\u001f", "\u0000", "\u0080", "#", ";"}) {
            check.fails("expr " + Check.quoted("1" + other + "+1"), "no expression: 1" + other + "+1");
        }
        refused(check, "1 < = 2");
        refused(check, "1 = = 1");
        refused(check, "1 & & 1");
        refused(check, "1 ! = 1");
    }

    /** Each operator stands with one of the next tighter row; the looser one is done last. */
    private static void rows() {
        Check check = Check.of("From the loosest: c ? x : y (from the right); ||; &&; |; ^; &; == != eq ne in ni; < <= > >=; << >>; + -; * / %; ahead: - + ! ~");
        is(check, "1||0?2:3", "2");
        is(check, "0?1:0||4", "1");
        is(check, "1||1&&0", "1");
        is(check, "0&&0||1", "1");
        is(check, "0&&0|1", "0");
        is(check, "2|0&&0", "0");
        is(check, "1|1^1", "1");
        is(check, "1^1|1", "1");
        is(check, "1^1&0", "1");
        is(check, "0&1^1", "1");
        is(check, "2&2==2", "0");
        is(check, "1==1&2", "0");
        is(check, "1==2<3", "1");
        is(check, "3>2!=0", "1");
        is(check, "1<1<<1", "1");
        is(check, "1<<1>1", "1");
        is(check, "1<<1+1", "4");
        is(check, "1+1<<1", "4");
        is(check, "8>>3-2", "4");
        is(check, "1+2*3", "7");
        is(check, "2*3+1", "7");
        is(check, "7-6/2", "4");
        is(check, "7-7%4", "4");
        is(check, "-2*-3", "6");
        is(check, "!0*5", "5");
        is(check, "~0+1", "0");
        is(check, "-1%3", "2");
        is(check, "1 in 1+0", "1");
        is(check, "1 eq 2<3", "1");
        is(check, "1 ne 2>=3", "1");
        is(check, "1 ni 2<=1", "1");
    }

    /** Any two operators: what stands without parentheses is as with those that the rows tell. */
    private static void rowsInPairs() {
        Check check = Check.of("From the loosest: c ? x : y (from the right); ||; &&; |; ^; &; == != eq ne in ni;"
                + " < <= > >=; << >>; + -; * / %");
        String[] rows = {"||", "&&", "|", "^", "&", "== != eq ne in ni", "< <= > >=", "<< >>", "+ -", "* / %"};
        String[] numbers = {"0 0 1", "0 1 0", "1 0 2", "2 2 1", "3 1 1", "2 3 3", "5 2 2", "1 2 3", "7 4 3", "4 4 2"};
        for (int first = 0; first < rows.length; first++) {
            for (int second = 0; second < rows.length; second++) {
                for (String one : rows[first].split(" ")) {
                    for (String other : rows[second].split(" ")) {
                        alike(check.fresh(), one, other, first >= second, numbers);
                    }
                }
            }
        }
    }

    private static void alike(Check check, String one, String other, boolean leftFirst, String[] numbers) {
        for (String row : numbers) {
            String[] n = row.split(" ");
            String plain = n[0] + " " + one + " " + n[1] + " " + other + " " + n[2];
            String grouped = leftFirst ? "(" + n[0] + " " + one + " " + n[1] + ") " + other + " " + n[2]
                    : n[0] + " " + one + " (" + n[1] + " " + other + " " + n[2] + ")";
            check.run("catch {expr {" + grouped + "}} e;set e");
            String due = check.result();
            check.run("catch {expr {" + plain + "}} e;set e");
            Check.due("the result of: expr {" + plain + "}", check.result(), due);
        }
    }

    private static void rowsFromTheLeft() {
        Check check = Check.of("each row from the left.");
        is(check, "10-3-2", "5");
        is(check, "10-3+2", "9");
        is(check, "100/10/5", "2");
        is(check, "7*3%4/2", "0");
        is(check, "7%4*3", "9");
        is(check, "1<<2<<3", "32");
        is(check, "64>>2<<1", "32");
        is(check, "3>2>1", "0");
        is(check, "1<2<=1", "1");
        is(check, "5>4>=1", "1");
        is(check, "2==2==2", "0");
        is(check, "1==1!=0", "1");
        is(check, "\"a\" eq \"a\" eq 1", "1");
        is(check, "0 ni 1 in 1", "1");
        is(check, "2 in 2==1", "1");
        is(check, "2 ne 2 ne 0", "0");
        is(check, "- - 5", "5");
        is(check, "-~!5", "1");
        is(check, "!!7", "1");
        is(check, "+-+5", "-5");
        is(check, "5-!0", "4");
        is(check, "5-~0", "6");
        is(check, "5--3", "8");
        is(check, "5-+3*!0", "2");
    }

    private static void choosing() {
        Check check = Check.of("c ? x : y (from the right)");
        is(check, "1?2:3", "2");
        is(check, "0?2:3", "3");
        is(check, "0?1:0?2:3", "3");
        is(check, "1?0:1?2:3", "0");
        is(check, "0?1:1?2:3", "2");
        is(check, "1?1?4:5:6", "4");
        is(check, "1?0?4:5:6", "5");
        is(check, "0?0?4:5:6", "6");
        is(check, "(1?0:1)?2:3", "3");
        is(check, "1?2+3:4+5", "5");
        refused(check, "1?2");
        refused(check, "1?2:");
        refused(check, "1?:2");
        refused(check, "?1:2");
        refused(check, "1:2");
        refused(check, "1?2:3:4");
        refused(check, "(1?2):3");
        refused(check, "1?(2:3)");
        refused(check, "1?2,3:4");
    }

    private static void numbers() {
        Check check = Check.of("OPERANDS: a digit and all letters and digits behind it, that are a WHOLE");
        is(check, "0", "0");
        is(check, "007", "7");
        is(check, "0x1F", "31");
        is(check, "0xa+0xf+0xA+0xF+0x0+0x9", "59");
        is(check, "9223372036854775807", "9223372036854775807");
        is(check, "-9223372036854775807-1", "-9223372036854775808");
        for (String text : new String[] {"9223372036854775808", "-9223372036854775808", "0x", "0X1", "1a", "1e3",
                "0x1G", "12eq12", "1in1", "0xg", "1_0", "1.5", "0x8000000000000000", "a1", "x", "1true"}) {
            refused(check, text);
        }
        is(check, "0x7fffffffffffffff", "9223372036854775807");
    }

    private static void operands() {
        Check check = Check.of("true, false, $ .. and [ .. ] as PARTS, \" .. \" and { .. } as words, ( x )");
        check.gives("set a 5;set m(k) 6;set {b c} 7", "7");
        is(check, "true", "true");
        is(check, "false", "false");
        is(check, "$a", "5");
        is(check, "$m(k)+${b c}+${m(k)}", "19");
        is(check, "[set a]+[list 1]", "6");
        is(check, "\"$a$a\"", "55");
        is(check, "\"a[list b]\\x41\" eq \"abA\"", "1");
        is(check, "{$a} eq \"\\$a\"", "1");
        is(check, "{a{b}c} eq \"a\\{b\\}c\"", "1");
        is(check, "{}", "");
        is(check, "\"\"", "");
        is(check, "((5))", "5");
        is(check, "(1+2)*3", "9");
        check.gives("expr " + Check.quoted("{a\\\n \tb} eq \"a b\""), "1")
                .gives("expr " + Check.quoted("\"a\\\n \tb\" eq {a b}"), "1");
        check.fails("expr {$none}", "no variable none").fails("expr {$m}", "m is an array")
                .fails("expr \"\\{a\"", "missing brace").fails("expr {\"a}", "missing quote")
                .fails("expr \"\\[a\"", "missing bracket")
                .fails("expr {$m(k}", "missing parenthesis")
                .fails("expr \"\\${a\"", "missing brace")
                .fails("expr {[list {a}b]}", "more behind brace");
        for (String text : new String[] {"$", "$+1", "$(k)", "()", "(1", "1)", "(1))", ")", "(", "\\x31", "'a'", "a",
                "$a$a", "\"a\"\"b\"", "[list 1][list 2]"}) {
            refused(check, text);
        }
    }

    private static void functions() {
        Check check = Check.of("abs( x ), min( x , .. ), max( x , .. ).");
        is(check, "abs(-5)", "5");
        is(check, "abs(5)", "5");
        is(check, "abs(0)", "0");
        is(check, "abs (1-3)", "2");
        is(check, "min(3)", "3");
        is(check, "max(3)", "3");
        is(check, "min(3,1,2)", "1");
        is(check, "max(3,1,4,2)", "4");
        is(check, "min(-9223372036854775807-1,9223372036854775807)", "-9223372036854775808");
        is(check, "max(-9223372036854775807-1,9223372036854775807)", "9223372036854775807");
        is(check, "max(1?2:3,0)", "2");
        is(check, "max(min(1,2),abs(-3))+1", "4");
        is(check, "max(-2,-1)", "-1");
        is(check, "5-min(3,4)", "2");
        is(check, "5-abs(-3)", "2");
        is(check, "max(" + Check.times("1,", 200) + "2)", "2");
        is(check, "min(" + Check.times("1,", 200) + "-2)+" + Check.times("(", 19) + "3" + Check.times(")", 19), "1");
        for (String text : new String[] {"abs()", "abs(1,2)", "min()", "max()", "min(1,)", "min(,1)", "max(1,,2)",
                "abs", "abs 1", "min 1,2", "1,2", "(1,2)", "abs(1", "max(1,2", "abs)", "max((1,2))", "-abs",
                "Abs(1)", "foo(1)", "foo(1", "(1)foo(2", "abs 12)", "max 12)", "min)1)"}) {
            refused(check, text);
        }
        check.fails("expr {abs(\"a\")}", "no whole: a")
                .fails("expr {min(1,\"b\",\"c\")}", "no whole: b")
                .fails("expr {max(\"a\",[error e])}", "e");
    }

    private static void whatCannotStand() {
        Check check = Check.of("Where, from the left, something stands (or lacks) that can't: \"no expression: TEXT\" (all of it), or an error of reading as told.");
        check.fails("expr {}", "no expression: ").fails("expr { }", "no expression: ")
                .fails("if { 1 + } {}", "no expression:  1 + ")
                .fails("while {} {}", "no expression: ").fails("if { } {}", "no expression:  ");
        for (String text : new String[] {"+", "1+", "*1", "1*", "1 2", "1 \"a\"", "\"a\" 1", "1 $a", "1 (2)", "(1)(2)",
                "1 = 1", "1 === 1", "1 <> 2", "1 ** 2", "1 ! 2", "1 ~ 2", "!", "-", "1 ~", "1 && ", "|| 1", "1 |", "eq",
                "1 eq", "eq 1", "1 equals 1", "in", "1,", "@", "1 }", "}", "1;2", "#1", "1 ? 2 : 3 4"}) {
            refused(check, text);
        }
        check.fails("expr {1 2 \"a}", "no expression: 1 2 \"a")
                .fails("expr {\"a 1 2}", "missing quote")
                .fails("expr {1 + [list \"a] + 2 3}", "missing quote")
                .fails("expr {1 1 [}", "no expression: 1 1 [")
                .fails("expr {$m( 1 1}", "missing parenthesis")
                .fails("expr {* \"}", "no expression: * \"")
                .fails("expr {(1 + \"}", "missing quote")
                .fails("expr {1 + + }", "no expression: 1 + +");
    }

    private static void words() {
        Check check = Check.of("(Words eq ne in ni true false abs min max end ahead of what is no letter, digit, _ .)");
        check.gives("set a 1", "1");
        is(check, "$a eq$a", "1");
        is(check, "$a ne\"1\"", "0");
        is(check, "$a in{1 2}", "1");
        is(check, "$a ni[list 2]", "1");
        is(check, "{a}eq{a}", "1");
        is(check, "{a}ne(2)", "1");
        is(check, "$a eq-1", "0");
        is(check, "true&&true", "1");
        is(check, "false||true?1:0", "1");
        is(check, "max(1,true?2:3)", "2");
        for (String text : new String[] {"1 eq1", "1 eqx", "1 eq_", "1 ne2", "1 inn 1", "1 in1", "1 nii 1", "true1",
                "truex", "true_", "falsey", "abs1(1)", "absx(1)", "min_(1)", "maxi(1)", "True", "FALSE", "tru",
                "1 EQ 1", "1 e 1", "_", "true true", "truefalse"}) {
            refused(check, text);
        }
    }

    private static void values() {
        Check check = Check.of("An operand's value is its text (substituted when it is worked; a number as it stands).");
        is(check, "0x10 eq 16", "0");
        is(check, "0x10 eq \"0x10\"", "1");
        is(check, "007 eq 7", "0");
        is(check, "(007) eq \"007\"", "1");
        is(check, "(1?0x10:2) eq \"0x10\"", "1");
        is(check, "+0x10 eq \"16\"", "1");
        is(check, "007 in {7 07}", "0");
        is(check, "\" 7 \" == 7", "1");
        is(check, "\" 7 \" eq 7", "0");
        check.gives("set a 1;expr {$a+[incr a]+$a}", "5")
                .gives("set b {1 + 2};catch {expr {$b}} e;set e", "1 + 2")
                .fails("expr {$b+1}", "no whole: 1 + 2").gives("expr $b+1", "4");
    }

    private static void wantingWholes() {
        Check check = Check.of("- + ~ and | ^ & << >> + - * / % abs min max want WHOLES (looked at from the left, when all sides have been worked)");
        for (String sign : new String[] {"-", "+", "~"}) {
            check.fails("expr {" + sign + "\"a\"}", "no whole: a")
                    .fails("expr {" + sign + "true}", "no whole: true")
                    .fails("expr {" + sign + "{}}", "no whole: ");
        }
        for (String row : new String[] {"|", "^", "&", "<<", ">>", "+", "-", "*", "/", "%"}) {
            check.fresh().fails("expr {\"a\" " + row + " \"b\"}", "no whole: a")
                    .fails("expr {1 " + row + " \"b\"}", "no whole: b")
                    .fails("expr {\"a\" " + row + " [error e]}", "e")
                    .fails("expr {\"a\" " + row + " 0}", "no whole: a")
                    .fails("expr {true " + row + " 1}", "no whole: true");
            Check.due("the code of wholes in texts", check.run("expr {\" 0x5 \" " + row + " \"+2\"}"), 0);
        }
        check.fails("expr {min(1,\"b\",[error e])}", "e")
                .fails("expr {max(\"a\",\"b\")}", "no whole: a")
                .fails("expr {\"a\"+1+[error e]}", "no whole: a")
                .fails("expr {1*(\"a\"+[error e])}", "e").gives("expr {5|2}", "7")
                .gives("expr {6^3}", "5").gives("expr {6&3}", "2").gives("expr {~5}", "-6")
                .gives("expr {-1|0}", "-1").gives("expr {-1^1}", "-2").gives("expr {-1&7}", "7");
    }

    private static void shifting() {
        Check check = Check.of("a << b, a >> b by b's last six bits, >> with the sign");
        is(check, "1<<0", "1");
        is(check, "1<<62", "4611686018427387904");
        is(check, "1<<63", "-9223372036854775808");
        is(check, "1<<64", "1");
        is(check, "1<<65", "2");
        is(check, "1<<-1", "-9223372036854775808");
        is(check, "3<<63", "-9223372036854775808");
        is(check, "1<<4294967296", "1");
        is(check, "-8>>1", "-4");
        is(check, "-1>>63", "-1");
        is(check, "-9>>1", "-5");
        is(check, "9223372036854775807>>62", "1");
        is(check, "9223372036854775807>>63", "0");
        is(check, "8>>64", "8");
        is(check, "8>>65", "4");
        is(check, "-8>>-63", "-4");
    }

    private static void dividing() {
        Check check = Check.of("a / b is rounded down, a % b is a - b * (a / b): \"divided by 0\".");
        String[][] rows = {{"7", "2", "3", "1"}, {"-7", "2", "-4", "1"}, {"7", "-2", "-4", "-1"}, {"-7", "-2", "3",
                "-1"}, {"6", "3", "2", "0"}, {"-6", "3", "-2", "0"}, {"0", "5", "0", "0"}, {"1", "2", "0", "1"}, {"-1",
                "2", "-1", "1"}, {"1", "-2", "-1", "-1"},
                {"9223372036854775807", "-1", "-9223372036854775807", "0"}, {"(-9223372036854775807-1)", "-1",
                "-9223372036854775808", "0"}, {"(-9223372036854775807-1)", "2", "-4611686018427387904", "0"},
                {"(-9223372036854775807-1)", "9223372036854775807", "-2", "9223372036854775806"}, {"5",
                "(-9223372036854775807-1)", "-1", "-9223372036854775803"}};
        for (String[] row : rows) {
            is(check, row[0] + "/" + row[1], row[2]);
            is(check, row[0] + "%" + row[1], row[3]);
        }
        check.fails("expr {1/0}", "divided by 0").fails("expr {0/0}", "divided by 0")
                .fails("expr {1%0}", "divided by 0").fails("expr {0%0}", "divided by 0")
                .fails("expr {1/\"-0\"}", "divided by 0").fails("expr {\"a\"/0}", "no whole: a")
                .fails("expr {1/\"a\"}", "no whole: a").gives("expr {0/-1}", "0");
    }

    private static void comparing() {
        Check check = Check.of("== != < <= > >= : as wholes, if both are, else by bytes.");
        String[][] rows = {{"1", "2", "-1"}, {"2", "10", "-1"}, {"10", "9", "1"}, {"\"10\"", "9", "1"}, {"0x10", "16",
                "0"}, {"\" 5 \"", "+5", "0"}, {"-1", "1", "-1"}, {"\"a\"", "\"b\"", "-1"}, {"\"10\"", "\"9a\"", "-1"},
                {"\"a\"", "5", "1"}, {"\"\"", "0", "-1"}, {"{}", "{}", "0"}, {"\"ab\"", "\"a\"", "1"},
                {"\"\\x7f\"", "\"\\x80\"", "-1"}, {"9223372036854775807", "\"9223372036854775808\"", "-1"},
                {"-9223372036854775807-1", "9223372036854775807", "-1"}, {"\"9223372036854775808\"",
                "\"09223372036854775808\"", "1"}, {"true", "1", "1"}, {"true", "true", "0"}, {"007", "7", "0"},
                {"(1+9)", "\"9a\"", "-1"}, {"\"1a\"", "(8+2)", "1"}};
        for (String[] row : rows) {
            int order = Integer.parseInt(row[2]);
            String[] operators = {"==", "!=", "<", "<=", ">", ">="};
            boolean[] hold = {order == 0, order != 0, order < 0, order <= 0, order > 0, order >= 0};
            for (int i = 0; i < operators.length; i++) {
                is(check.fresh(), row[0] + " " + operators[i] + " " + row[1], hold[i] ? "1" : "0");
            }
        }
    }

    private static void bytes() {
        Check check = Check.of("eq ne: by bytes.");
        String[][] rows = {{"1", "1", "1"}, {"1", "01", "0"}, {"\"a\"", "\"a\"", "1"}, {"\"a\"", "\"A\"", "0"}, {"{}",
                "\"\"", "1"}, {"\"a\"", "\"ab\"", "0"}, {"0x1", "1", "0"}, {"(0x1+0)", "1", "1"}, {"\" 1\"", "1", "0"},
                {"2-3", "\"-1\"", "1"}, {"true", "\"true\"", "1"}, {"!0", "true", "0"}};
        for (String[] row : rows) {
            is(check, row[0] + " eq " + row[1], row[2]);
            is(check, row[0] + " ne " + row[1], row[2].equals("1") ? "0" : "1");
        }
    }

    private static void elements() {
        Check check = Check.of("in, ni: whether it is an element of a list, or not.");
        String[][] rows = {{"\"a\"", "{a b}", "1"}, {"\"b\"", "{a b}", "1"}, {"\"c\"", "{a b}", "0"}, {"\"\"", "{}",
                "0"}, {"\"\"", "{{}}", "1"}, {"\"a b\"", "{{a b}}", "1"}, {"1", "{01}", "0"}, {"1+1", "{1 2}", "1"},
                {"\"a\"", "{ab}", "0"}, {"2", "2", "1"}, {"5", "(2+3)", "1"}, {"\"\\{\"", "\"\\\\\\{\"", "1"}};
        for (String[] row : rows) {
            is(check, row[0] + " in " + row[1], row[2]);
            is(check, row[0] + " ni " + row[1], row[2].equals("1") ? "0" : "1");
        }
        check.fails("expr {1 in \"\\{\"}", "no list").fails("expr {1 ni \"{a}b\"}", "no list")
                .gives("expr {\"\\{\" in {a}}", "0").fails("expr {[error l] in [error r]}", "l");
    }

    private static void truths() {
        Check check = Check.of("! && || ? : want TRUTHS: a whole (true, if it is not 0), true or false; else \"no truth: TEXT\"; they give 1 or 0 (c ? x : y: x or y).");
        String[][] rows = {{"0", "0"}, {"1", "1"}, {"-1", "1"}, {"0x0", "0"}, {"\" 0 \"", "0"}, {"-0", "0"},
                {"9223372036854775807", "1"}, {"true", "1"}, {"false", "0"}, {"\"true\"", "1"}, {"{false}", "0"},
                {"000", "0"}, {"\" -2 \"", "1"}, {"1-1", "0"}};
        for (String[] row : rows) {
            is(check.fresh(), "!(" + row[0] + ")", row[1].equals("1") ? "0" : "1");
            is(check, "(" + row[0] + ")&&5", row[1]);
            is(check, "5&&(" + row[0] + ")", row[1]);
            is(check, "(" + row[0] + ")||0", row[1]);
            is(check, "0||(" + row[0] + ")", row[1]);
            is(check, "(" + row[0] + ")?\"y\":\"n\"", row[1].equals("1") ? "y" : "n");
        }
        for (String text : new String[] {"", "a", "True", " true", "true ", "tru", "truefalse", "9223372036854775808",
                "0x", "yes", "1 1"}) {
            String operand = Check.quoted(text);
            check.fresh().fails("expr {!" + operand + "}", "no truth: " + text)
                    .fails("expr {" + operand + "&&1}", "no truth: " + text)
                    .fails("expr {1&&" + operand + "}", "no truth: " + text)
                    .fails("expr {" + operand + "||1}", "no truth: " + text)
                    .fails("expr {0||" + operand + "}", "no truth: " + text)
                    .fails("expr {" + operand + "?1:2}", "no truth: " + text);
        }
        check.gives("expr {1?\"a b\":0}", "a b").gives("expr {0?0:{}}", "")
                .gives("expr {\"a\"==\"a\"&&\"b\"eq\"b\"}", "1");

        check = Check.of("An expression of if, while, for is true as TRUTHS are.");
        check.gives("if {\" 2 \"} {list y}", "y").gives("if 0x0 {list y} {list n}", "n")
                .gives("if false {list y} {list n}", "n").gives("if {{true}} {list y}", "y")
                .fails("if {{}} {}", "no truth: ").fails("while {{yes}} {}", "no truth: yes")
                .fails("for {} {\"True\"} {} {}", "no truth: True").gives("while true break", "")
                .gives("for {} false {} {error e}", "");
    }

    private static void notWorked() {
        Check check = Check.of("The right side of && || is not worked where the left one tells all, nor what is not chosen by ? .");
        is(check, "0&&[error e]", "0");
        is(check, "1||[error e]", "1");
        is(check, "false&&$none", "0");
        is(check, "true||$none", "1");
        is(check, "1?2:[error e]", "2");
        is(check, "0?[error e]:3", "3");
        is(check, "0&&[error e]&&[error f]", "0");
        is(check, "1||[error e]||[error f]", "1");
        is(check, "0&&[error e]||1", "1");
        is(check, "1||[error e]&&[error f]", "1");
        is(check, "0?[error e]:1?4:[error f]", "4");
        is(check, "1?0?[error e]:5:[error f]", "5");
        is(check, "0&&(1/0)", "0");
        is(check, "0&&\"a\"", "0");
        check.fails("expr {1&&[error e]}", "e").fails("expr {0||[error e]}", "e")
                .fails("expr {1?[error e]:2}", "e").fails("expr {0?2:[error e]}", "e")
                .fails("expr {0&&}", "no expression: 0&&").fails("expr {1?2:\"}", "missing quote")
                .fails("expr {[error l]&&0}", "l").fails("expr {0*[error r]}", "r")
                .costs("expr 0&&12345", 5 + 13 + 4 + 8 + 7 + 5 + 8 + 1 + 1);
    }

    private static void results() {
        Check check = Check.of("The result: a whole's digits, if it is one, else the text.");
        is(check, "0x1f", "31");
        is(check, "\" +07 \"", "7");
        is(check, "{-0}", "0");
        is(check, "\"-0x8000000000000000\"", "-9223372036854775808");
        is(check, "\"9223372036854775808\"", "9223372036854775808");
        is(check, "\" a \"", " a ");
        is(check, "{}", "");
        is(check, "true", "true");
        is(check, "1?\"0x10\":0", "16");
        is(check, "\"1 1\"", "1 1");
        is(check, "(\"007\")", "7");
    }
}
