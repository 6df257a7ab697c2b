/** Section 5 of the document: expressions. */
public final class ExpressionTest {
    private static final Check CHECK = new Check();

    public static void main(String[] args) {
        operands();
        reckoning();
        rows();
        comparing();
        truths();
        choices();
        functions();
        refused();
        reading();
        Check.finish();
    }

    private static void gives(String expression, String result) {
        CHECK.fresh().gives("set a 5; set m(k) 7; set t text; expr {" + expression + "}", result);
    }

    private static void fails(String expression, String message) {
        CHECK.fresh().fails("set a 5; set m(k) 7; set t text; expr {" + expression + "}", message);
    }

    private static void refuses(String expression) {
        fails(expression, "no expression: " + expression.trim());
    }

    private static void operands() {
        gives("12", "12");
        gives("0x1F", "31");
        gives("007", "7");
        gives("$a", "5");
        gives("$m(k)", "7");
        gives("$m([string index k 0])", "7");
        gives("${m(k)}", "7");
        gives("[list a b]", "a b");
        gives("\"x $a [list y]\"", "x 5 y");
        gives("{x $a}", "x $a");
        gives("\"\"", "");
        CHECK.fresh().gives("expr \"{a\\\\\\n  b}\"", "a b");
        gives("{a\\\n  b}", "a b");
        gives("\" 0x10 \"", "16");
        gives("true", "true");
        gives("false", "false");
        gives("(((3)))", "3");
        gives(" \t\n 3 \u000b\f\r", "3");
        gives("[set a 6]+$a", "12");
        gives("$a+[set a 6]", "11");
        fails("$none", "no variable none");
        fails("[error x]", "x");
        CHECK.fresh().gives("expr 1 + 2", "3").gives("expr { 1 } {+} { 2 }", "3").fails("expr",
                "wrong arguments: expr");
        CHECK.fresh().ends("expr {[break] + $none}", 3, "").ends("expr {[return x]}", 2, "x");
    }

    private static void reckoning() {
        gives("7/2", "3");
        gives("-7/2", "-4");
        gives("7/-2", "-4");
        gives("-7/-2", "3");
        gives("7%3", "1");
        gives("-7%3", "2");
        gives("7%-3", "-2");
        gives("-7%-3", "-1");
        gives("6%3", "0");
        gives("-9223372036854775807-1", "-9223372036854775808");
        gives("9223372036854775807+1", "-9223372036854775808");
        gives("9223372036854775807*2", "-2");
        gives("(-9223372036854775807-1)/-1", "-9223372036854775808");
        gives("(-9223372036854775807-1)%-1", "0");
        gives("-(-9223372036854775807-1)", "-9223372036854775808");
        gives("1<<63", "-9223372036854775808");
        gives("1<<64", "1");
        gives("1<<-1", "-9223372036854775808");
        gives("-8>>1", "-4");
        gives("-1>>63", "-1");
        gives("8>>67", "1");
        gives("6&3|8^1", "11");
        gives("~5", "-6");
        gives("+0x10", "16");
        gives("- - 3", "3");
        fails("1/0", "divided by 0");
        fails("1%0", "divided by 0");
        fails("$t/0", "no whole: text");
        fails("1/$t", "no whole: text");
        fails("\"a\"+\"b\"", "no whole: a");
        fails("$t+[error late]", "late");
        fails("1+\"\"", "no whole: ");
        fails("-$t", "no whole: text");
        fails("~true", "no whole: true");
        fails("1 << $t", "no whole: text");
        fails("$t | 1", "no whole: text");
    }

    private static void rows() {
        gives("1+2*3", "7");
        gives("(1+2)*3", "9");
        gives("10-4-3", "3");
        gives("100/10/5", "2");
        gives("100/10*5", "50");
        gives("2*3%4", "2");
        gives("7%4%2", "1");
        gives("7%4*2", "6");
        gives("9/4/2", "1");
        gives("8-4-2", "2");
        gives("64>>2>>1", "8");
        gives("1<<2+1", "8");
        gives("16>>1<<2", "32");
        gives("1<2<3", "1");
        gives("3>2>1", "0");
        gives("5<1<<3", "1");
        gives("1==2<3", "1");
        gives("0==2<1", "1");
        gives("4&6==6", "0");
        gives("5^4&6", "1");
        gives("1|2^3", "1");
        gives("2|1&&0", "0");
        gives("1||1&&0", "1");
        gives("0&&1||1", "1");
        gives("0&&1|1", "0");
        gives("0&&1^1", "0");
        gives("1|1^1", "1");
        gives("1^1&0", "1");
        gives("1&1==0", "0");
        gives("3==3<1", "0");
        gives("1<1<<1", "1");
        gives("1<<1+1", "4");
        gives("1+2%2", "1");
        gives("-2+3", "1");
        gives("!0+1", "2");
        gives("!(0+1)", "0");
        gives("~1*2", "-4");
        gives("-1<<1", "-2");
        gives("1 eq 1 == 1", "1");
        gives("2 == 2 ne 0", "1");
        gives("1 + 1 eq 2", "1");
        gives("1||0?2:3", "2");
        gives("1 ? 2 : 3 + 4", "2");
    }

    private static void comparing() {
        gives("10==0xA", "1");
        gives("\" 10\"==\"10 \"", "1");
        gives("\"10\" eq \" 10\"", "0");
        gives("10 eq 0xA", "0");
        gives("10+0 eq 0xA+0", "1");
        gives("10<9", "0");
        gives("\"a10\"<\"a9\"", "1");
        gives("\"10\"<\"9a\"", "1");
        gives("\"a\"<\"ab\"", "1");
        gives("\"ab\"<=\"a\"", "0");
        gives("\"\\xff\">\"a\"", "1");
        gives("-1<1", "1");
        gives("2>=2", "1");
        gives("2<=1", "0");
        gives("2>1", "1");
        gives("1!=1", "0");
        gives("1!=2", "1");
        gives("\"a\"!=\"b\"", "1");
        gives("\"a\"==\"a\"", "1");
        gives("{}==\"\"", "1");
        gives("\"a\" ne \"a\"", "0");
        gives("\"a\"ne\"b\"", "1");
        gives("\"b c\" in {a {b c}}", "1");
        gives("\"b\" in {a {b c}}", "0");
        gives("1 in {01 2}", "0");
        gives("1+1 in {01 2}", "1");
        gives("\"\" ni {}", "1");
        gives("\"x\"ni{x y}", "0");
        fails("1 in \"\\{\"", "no list");
        fails("1 ni {a}b", "no expression: 1 ni {a}b");
    }

    private static void truths() {
        gives("!5", "0");
        gives("!0", "1");
        gives("!true", "0");
        gives("!(1-1)", "1");
        gives("!(3-1)", "0");
        gives("!!5", "1");
        gives("(1-1)||(2-2)", "0");
        gives("(2-1)&&(3-1)", "1");
        gives("(1-1)?5:6", "6");
        gives("!false", "1");
        gives("!\" 0x0 \"", "1");
        gives("5&&true", "1");
        gives("5&&0", "0");
        gives("false||7", "1");
        gives("false||0", "0");
        gives("0&&[error no]", "0");
        gives("1||[error no]", "1");
        gives("0&&$none&&$none", "0");
        gives("1||$none||$none", "1");
        gives("0&&$none||1", "1");
        fails("$t&&1", "no truth: text");
        fails("$t&&[error no]", "no truth: text");
        fails("1&&$t", "no truth: text");
        fails("0||\"\"", "no truth: ");
        fails("!\"TRUE\"", "no truth: TRUE");
        fails("!\" true\"", "no truth:  true");
        fails("$t?1:2", "no truth: text");
        CHECK.fresh().gives("if {\" 1 \"} {list y}", "y").gives("if true {list y}",
                "y").gives("if false {list y} {list n}", "n");
        CHECK.fails("if {\"yes\"} {list}", "no truth: yes").fails("while x {}", "no expression: x");
        CHECK.fails("while {\"\"} {}", "no truth: ").fails("for {} {\"a b\"} {} {}", "no truth: a b");
    }

    private static void choices() {
        gives("1?2:3", "2");
        gives("0?2:3", "3");
        gives("1?\"a b\":3", "a b");
        gives("1?0?1:2:3", "2");
        gives("0?1:0?2:3", "3");
        gives("0?1:1?2:3", "2");
        gives("1?[list y]:[error no]", "y");
        gives("0?[error no]:[list n]", "n");
        gives("1 ? 0x10 : 2", "16");
        gives("(1 ? 0x10 : 2) eq \"0x10\"", "1");
        gives("0 ? 1 : 2 || 0", "1");
        gives("true?false?1:2:3", "2");
        gives("(1?2:3)+(0?2:3)", "5");
        refuses("1 ? 2 , 3 : 4");
    }

    private static void functions() {
        gives("abs(-3)", "3");
        gives("abs ( 3 )", "3");
        gives("abs(-9223372036854775807-1)", "-9223372036854775808");
        gives("min(3)", "3");
        gives("min(3,1,2)", "1");
        gives("max( 1 , 0x10 , 2 )", "16");
        gives("max(-1,-2)", "-1");
        gives("min(max(1,2),abs(-1))", "1");
        gives("max(1?2:3,0)", "2");
        gives("-abs(-3)", "-3");
        gives("2*max(1,2)+1", "5");
        StringBuilder row = new StringBuilder("50");
        for (int i = 1; i < 200; i++) {
            row.append(',').append((i * 37 + 50) % 200);
        }
        gives("max(" + row + ")", "199");
        gives("min(" + row + ")+100*max(" + row + ")", "19900");
        fails("abs(\"x\")", "no whole: x");
        fails("min(1,\"y\",\"z\")", "no whole: y");
        fails("min(\"x\",[error late])", "late");
    }

    private static void refused() {
        String[] none = {"", "  ", "1 2", "1+", "+", "*1", "(1", "1)", "()", "((1)", "1 ? 2", "1 : 2", "1 ? : 2",
                "1 ? 2 :",
            "? 1 : 2", "1 ? (2 : 3)", "(1 ? 2) : 3", "a", "abc(1)", "true1", "truex", "true(1)", "1true", "12a", "0x",
                    "0xg", "1_0",
            "_1", "9223372036854775808", "-9223372036854775808", "0x8000000000000000", "1.5", "1 = 1", "1 === 1",
                    "1 <> 2", "1 ! 2",
            "1 ~ 2", "1 ** 2", "2 *", "1 eq", "eq 1", "1 eq1", "1 eqx 2", "1 EQ 1", "1eq 1", "abs", "abs 1", "abs()",
                    "abs(1,2)", "min()",
            "min(1,)", "min(,1)", "min(1 2)", "max(1", "1,2", "(1,2)", "abs(1", "$", "$ a", "$+", "#", "1;2", "\\1",
                    "'a'", "}", "]",
            "1 ]", "&& 1", "1 && && 1", "!", "- - -", "1 -", "1 \"a\"", "1 [list]", "1 $a", "1 {a}", "\"a\" \"b\"",
                    "min(1,2",
            "1 ? 2 : 3 : 4", "frue", "zbs(1)", "nin(1,2)", "absx(1)", "abs_(1)", "1 in", "in {a}"};
        for (String expression : none) {
            CHECK.fresh().fails("set a 5; catch [list expr [subst {" + escaped(expression) + "}]] m; error $m",
                    "no expression: " + expression.trim());
        }
        // Of two things that are wrong the left one is told.
        refuses("1 \"a");
        refuses("1 + ) + [");
        refuses("1 2 (");
        fails("[list + ) +", "missing bracket");
    }

    /** The text so that subst makes it again. */
    private static String escaped(String text) {
        StringBuilder made = new StringBuilder();
        for (char c : text.toCharArray()) {
            made.append(String.format("\\x%02x", (int) c));
        }
        return made.toString();
    }

    private static void reading() {
        fails("\"a", "missing quote");
        fails("(1 + $m(a", "missing parenthesis");
        fails("1 + [list", "missing bracket");
        fails("\"[list \"", "missing quote");
        CHECK.fresh().fails("expr \"\\{a\"", "missing brace").fails("expr \"\\$\\{a\"", "missing brace");
        CHECK.fails("expr {[list {a}b]}", "more behind brace").fails("expr {(1}", "no expression: (1");
        CHECK.prints("catch {expr {[puts a] + (}}", "").prints("catch {expr {[puts a] + $none + [puts b]}}", "a\n");
        gives("{a}=={a}", "1");
        gives("(\"a\"eq\"a\")", "1");
        gives("max(\"1\",{2})", "2");
        gives("\"a\"eq{a}&&1", "1");
    }
}
