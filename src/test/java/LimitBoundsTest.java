/** Section 3 of the document, CODES, LIMITS and WORK: each sentence that names a boundary. */
public final class LimitBoundsTest {
    public static void main(String[] args) {
        codes();
        scriptsEnd();
        codesGoOn();
        limitsAreNoCodes();
        workOfAll();
        workStepByStep();
        longWords();
        longKeysAndOperands();
        longTextsOfSubst();
        longValues();
        longLists();
        longTextsEvaluated();
        longMessages();
        manyNames();
        manyElements();
        manyCommands();
        openCalls();
        evaluations();
        readBrackets();
        readExpressions();
        Check.finish();
    }

    private static void codes() {
        Check check = Check.of("0 done; 1 error, its message; 2 return; 3 break; 4 continue; others by return.");
        check.ends("list a", 0, "a").ends("error e", 1, "e").ends("return r", 2, "r")
                .ends("break", 3, "").ends("continue", 4, "");
        check.gives("proc p c {return -code $c v};list [catch {p 0}] [catch {p 1}] [catch {p 2}] [catch {p 3}] [catch {p 4}] [catch {p 5}] [catch {p 999}]",
                "0 1 2 3 4 5 999");
        check.ends("p 5", 5, "v").ends("p 999", 999, "v");
    }

    private static void scriptsEnd() {
        Check check = Check.of("A script ends with the first code that is not 0 (and that command's result), else with 0 and the last command's result (empty, if there is none).");
        check.ends("list a;break;list b", 3, "").ends("list a;error b;error c", 1, "b")
                .gives("list a;list b", "b").gives("", "").gives(" ;# note", "")
                .gives("list a;set b 1;#", "1").gives("list a;puts b", "");
        check.gives("eval {}", "").gives("set x [list a;]", "a").gives("set x [;]", "")
                .ends("list a;return b;list c", 2, "b").gives("list a;;;\n", "a");
    }

    private static void codesGoOn() {
        Check check = Check.of("Where nothing else is told a command ends with such a code of a script that it evaluates, or of an expression.");
        for (String code : new String[] {"error", "return", "break", "continue"}) {
            int number = code.equals("error") ? 1 : code.equals("return") ? 2 : code.equals("break") ? 3 : 4;
            String result = number < 3 ? "v" : "";
            String script = number < 3 ? code + " v" : code;
            check.ends("eval {" + script + "}", number, result)
                    .ends("uplevel #0 {" + script + "}", number, result)
                    .ends("if 1 {" + script + "}", number, result)
                    .ends("switch a {a {" + script + "}}", number, result);
            check.ends("expr {[" + script + "]}", number, result)
                    .ends("if {[" + script + "]} {}", number, result)
                    .ends("while {[" + script + "]} {}", number, result)
                    .ends("for {} {[" + script + "]} {} {}", number, result);
            check.ends("for {" + script + "} 1 {} {}", number, result)
                    .ends("subst {a[" + script + "]b}", number, result)
                    .ends("list a [" + script + "] b", number, result)
                    .ends("list $m([" + script + "])", number, result).fresh();
        }
        check.ends("for {} 1 continue {}", 4, "").ends("while 1 {return v}", 2, "v")
                .ends("foreach a b {error v}", 1, "v").ends("for {} 1 {error v} {}", 1, "v");
    }

    private static void limitsAreNoCodes() {
        Check check = Check.of("LIMITS are no codes; nothing catches them, the run is over at once");
        check.meets("catch {string repeat a 4001} x;puts no", 2).gives("info exists x", "0")
                .meets("while 1 {catch {proc p {} p;p}}", 4)
                .meets("eval {catch {if 1 {string repeat a 4001}}};puts no", 2);
        Check.due("OUT behind the LIMIT", check.out(), "");
        check.meets("set y 1;catch {while 1 {}};set y 2", 1);
    }

    /** An object that has run a script, and has so much of WORK left. */
    private static Check left(String script, int rest) {
        Check check = new Check();
        check.run(script);
        check.run("set x [string repeat a 3900]");
        while (150000 - rest - check.core.count(0) > 4005) {
            check.run("set x");
        }
        check.run(Check.times(" ", 150000 - rest - check.core.count(0) - 5));
        Check.due("WORK ahead of the test", check.core.count(0), 150000 - rest);
        return check;
    }

    private static void workOfAll() {
        Check.of("1 WORK would be more than 150000 (in the house's life).");
        left("", 5).gives("", "").counts(0, 150000).meets("", 1).counts(0, 150000);
        left("", 4).meets("", 1).counts(0, 149996).meets("", 1).counts(0, 149996);
        left("", 105).meets(Check.times(" ", 101), 1).counts(0, 149895)
                .gives(Check.times(" ", 100), "").counts(0, 150000);
        left("", 0).meets("list", 1).counts(0, 150000).countsOfRun(0, 0, 0).counts(6, 0);
    }

    /** The script makes WORK grow by these, in this order: each is the last that is done, and refused. */
    private static void steps(String script, int... efforts) {
        int done = 0;
        for (int effort : efforts) {
            if (effort > 0) {
                Check check = left("set i 37", done + effort - 1);
                Check.due("the code of " + script + " with a rest of " + (done + effort - 1), check.run(script), -1);
                check.counts(0, 150000 - effort + 1);
            }
            done += effort;
        }
        Check check = left("set i 37", done);
        Check.due("whether " + script + " is done with a rest of " + done, check.run(script) >= 0, true);
        check.counts(0, 150000);
    }

    private static void workStepByStep() {
        Check.of("WORK grows (not, when it would be more): when a script or expression is begun by 5 and its bytes (4 is looked at ahead of this)");
        steps("list", 9, 4, 6, 0);
        steps("expr 1+22", 14, 4, 4, 7, 9, 1, 2, 2);
        steps("set y [list a]", 19, 3, 1, 11, 4, 1, 7, 1, 1, 8, 1);
        steps("if 1 {list a}", 18, 2, 1, 6, 8, 6, 1, 11, 4, 1, 7, 1, 1);

        Check.of("when a word, a KEY, an operand, a text of subst has been substituted, by its bytes");
        steps("list a$i", 13, 4, 3, 7, 3);
        steps("set y ab[list $i]c", 23, 3, 1, 12, 4, 2, 7, 2, 5, 8, 5);
        steps("set m(k) v;list $m(k)", 26, 3, 4, 1, 8, 1, 4, 1, 1, 7, 1);
        steps("list {*}{a b}", 18, 4, 3, 8, 3);
        steps("subst {a\\x41}", 18, 5, 5, 7, 2, 2);
        steps("expr {\"a$i\" eq {b}}", 24, 4, 12, 7, 17, 3, 1, 1);

        Check.of("when a command is run (its words are there, and counted, whether there is such a command or not) by 5 and 1 for each word");
        steps("none a bc", 14, 4, 1, 2, 8, 21);
        steps("set", 8, 3, 6, 20);
        steps("{*}{list a}", 16, 6, 7, 1);

        Check.of("when a command that was run is over, with any code, by the bytes of its result.");
        steps("error abc", 14, 5, 3, 7, 3);
        steps("return ab", 14, 6, 2, 7, 2);
        steps("eval {list a}", 18, 4, 6, 7, 11, 4, 1, 7, 1, 1);
        steps("catch {error ab} r", 23, 5, 8, 1, 8, 13, 5, 2, 7, 2, 1);
        steps("proc p a {set a};p bc", 26, 4, 1, 1, 5, 9, 0, 1, 2, 7, 10, 3, 1, 7, 2, 2);

        Check.of("(4 is looked at ahead of this)");
        String script = nested(100, "list x");
        Check check = new Check();
        check.meets(script, 4);
        int used = check.core.count(0);
        left("", used).meets(script, 4).counts(0, 150000);
        left("", used - 1).meets(script, 1);
    }

    private static final String TWO = "set a [string repeat a 2000];set b [string repeat b 1999];set c [string repeat c 4000];";

    private static void longWords() {
        Check check = Check.of("2 a text would be longer than 4000 bytes: a word");
        check.gives(TWO + "string length $a${b}x", "4000").meets("string length $a${b}xx", 2)
                .gives("string length \"$a${b}x\"", "4000").meets("string length \"$a${b}xx\"", 2);
        check.gives("string length $c", "4000").meets("string length x$c", 2)
                .meets("string length $c\\x41", 2).gives("string length $c[]", "4000")
                .meets("string length $c[list x]", 2);
        check.gives("llength [list {*}$a$b]", "1").fresh();
        check.gives(TWO + "string length $a[string length $c]", "2004").fresh();
        check.gives(TWO + "llength [list {*}$c]", "1").meets("llength [list {*}${c}x]", 2);
    }

    private static void longKeysAndOperands() {
        // The message about such a KEY would be too long itself; so OUT tells how far it went.
        Check check = Check.of("a KEY");
        check.gives(TWO + "set m(1) 1", "1").meets("list $m($a${b}x[puts yes])", 2);
        Check.due("OUT of a KEY of 4000 bytes", check.out(), "yes\n");
        check.meets("list $m($a${b}xx[puts no])", 2);
        Check.due("OUT of a KEY of 4001 bytes", check.out(), "");

        check = Check.of("an operand");
        check.gives(TWO + "expr {\"$a${b}x\" eq \"\"}", "0").meets("expr {\"$a${b}xx\" eq \"\"}", 2)
                .gives("expr {[set c] eq $c}", "1")
                .gives("string length [expr {\"$a${b}x\"}]", "4000");
    }

    private static void longTextsOfSubst() {
        Check check = Check.of("a text of subst (as soon as a part is put in)");
        check.gives(TWO + "string length [subst {$a${b}x}]", "4000").meets("subst {$a${b}xx}", 2)
                .meets("subst {$a${b}x[puts yes]y}", 2);
        Check.due("OUT of what is put in ahead", check.out(), "yes\n");
        check.meets("subst {$a${b}xx[puts no]}", 2);
        Check.due("OUT of what would be put in behind", check.out(), "");
        check.meets("list $a$a[puts yes]x", 2);
        Check.due("OUT of a part of a word ahead", check.out(), "yes\n");
        check.meets("list $a${a}x[puts no]", 2);
        Check.due("OUT of a part of a word behind", check.out(), "");
    }

    private static void longValues() {
        Check check = Check.of("a value written");
        check.gives(TWO + "string length [append a $b x]", "4000").meets("append a x", 2)
                .gives("string length $a", "4000").gives("string length [append a {}]", "4000");
        check.gives("string length [lappend b [string repeat c 2000]]", "4000")
                .meets("lappend b {}", 2).gives("string length [lappend b]", "4000")
                .gives("llength $b", "2");
    }

    /** A text of a thousand elements that is longer when it is made a list: 4000 bytes, or one more. */
    private static String thousand(String last) {
        return "set s [string repeat {; } 999]" + last + ";";
    }

    private static void longLists() {
        Check.of("any text that a command makes (a list, what concat makes, a message).");
        for (String maker : new String[] {"list {*}$s", "lreverse $s", "lsort $s", "lrange $s 0 end", "lassign $s",
                "lappend s", "p {*}$s", "info args q"}) {
            String script = "proc p args {set args};proc q $s {};string length [" + maker + "]";
            new Check().gives(thousand("\\;\\;") + script, "4000");
            new Check().meets(thousand("\\;\\;\\;") + script, 2).counts(3, 0);
        }
        String both = "set a [string repeat a 2000];set b [string repeat b ";
        for (String maker : new String[] {"list $a $b", "concat $a $b", "string repeat ${b}c 2", "array names m",
                "concat { } $a\\n { \t} $b"}) {
            new Check().gives(both + "1999];set m($a) 1;set m($b) 2;string length [" + maker + "]", "4000");
            new Check().meets(both + "2000];set m($a) 1;set m($b) 2;string length [" + maker + "]", 2);
        }
        new Check().gives(both + "1995];set m($a) 1;set m($b) 2;string length [array get m]", "4000");
        new Check().meets(both + "1996];set m($a) 1;set m($b) 2;string length [array get m]", 2);
        new Check().gives("set t [string repeat z 3998];string length [join {x y} $t]", "4000")
                .meets("join {x y} z$t", 2);
        new Check().gives("set t [string repeat {;} 999];string length [split $t\\{a {}]", "4000")
                .meets("split $t\\{\\{ {}", 2);
        new Check().gives("string length [string repeat a 4000]", "4000")
                .meets("string repeat a 4001", 2).meets("string repeat a 9223372036854775807", 2)
                .gives("string repeat {} 9223372036854775807", "");
    }

    private static void longTextsEvaluated() {
        Check.of("any text that a command makes (a list, what concat makes, a message).");
        for (String command : new String[] {"eval", "uplevel #0"}) {
            String script = "set a \"list [string repeat { } 1994]b\";set b \"c[string repeat { } %]d\";" + command + " $a $b";
            new Check().gives(script.replace("%", "1997"), "b c d").fresh().meets(script.replace("%", "1998"), 2);
        }
        String script = "set a \"1[string repeat { } 1998]+\";set b \"1[string repeat { } %]+1\";expr $a $b";
        new Check().gives(script.replace("%", "1996"), "3").fresh().meets(script.replace("%", "1997"), 2);
    }

    /** A message that is so much longer than the name in it. */
    private static void message(String script, int more) {
        String name = "set n [string repeat a " + (4000 - more) + "];";
        Check check = new Check();
        Check.due("the code of: " + name + script, check.run(name + script), 1);
        Check.due("the size of the message of: " + name + script, check.core.size(), 4000);
        check.fresh().meets("set n [string repeat a " + (4001 - more) + "];" + script, 2);
    }

    private static void longMessages() {
        Check.of("any text that a command makes (a list, what concat makes, a message).");
        message("$n", "no such command: ".length());
        message("rename $n x", "no such command: ".length());
        message("set $n", "no variable ".length());
        message("set ${n}(b)", "no variable (b)".length());
        message("proc $n {} {};$n x", "wrong arguments: ".length());
        message("incr v $n", "no whole: ".length());
        message("expr {$n+1}", "no whole: ".length());
        message("expr {!$n}", "no truth: ".length());
        message("expr $n", "no expression: ".length());
        message("lindex a $n", "no index: ".length());
        message("upvar $n a b", "no level: ".length());
        message("return -code $n x", "no code: ".length());
        message("string $n", "no option: ".length());
        message("proc p ${n}() {}", "no parameters: ()".length());
        message("info body $n", "no procedure: ".length());
        message("set ${n}(a) 1;set $n 1", " is an array".length());
        message("set $n 1;set ${n}(a) 1", " is no array".length());
        message("set ${n}(a) 1;set ${n}(b)", "no element (b)".length());
        message("upvar 0 a ${n}()", "() is no name".length());
        message("upvar 0 $n $n", " is itself".length());
        message("set $n 1;upvar 0 a $n", " is there already".length());
        message("proc $n {} {};rename list $n", " is there already".length());
    }

    private static void manyNames() {
        Check check = Check.of("3 a frame would know more than 100 names");
        String[] writes = {"set % 1", "set %(a) 1", "incr %", "append % x", "lappend %", "lassign {} %",
                "foreach % {1} {}", "catch {} %", "array set % {a b}", "upvar 0 w0 %", "upvar 0 % w0"};
        for (String write : writes) {
            check.fresh().gives("set w0 1;unset w0;set i 0;while {$i<97} {set v$i 1;incr i}", "").counts(5, 99);
            Check.due("the code of " + write, check.run(write.replace("%", "new")), 0);
            check.counts(5, 100).meets(write.replace("%", "more"), 3).counts(5, 100)
                    .gives("info exists more", "0").gives("set v5 2;unset v5;set v5 3", "3");
        }
        StringBuilder params = new StringBuilder("{p0 1}");
        for (int i = 1; i < 100; i++) {
            params.append(" {p").append(i).append(" 1}");
        }
        check.fresh().gives("proc p {" + params + "} {set p99};p", "1")
                .meets("proc p {" + params + " {p100 1}} {puts no};p", 3).counts(3, 1);
        check.gives("proc q {} {set i 0;while {$i<99} {global v$i;incr i}};q", "").counts(5, 99)
                .meets("proc q {} {set i 0;while {$i<100} {global v$i;incr i}};q", 3)
                .counts(5, 100);
    }

    private static void manyElements() {
        Check check = Check.of("an array more than 100 elements");
        for (String write : new String[] {"set m(%) 1", "incr m(%)", "append m(%) x", "lappend m(%)", "lassign {} m(%)",
                "foreach m(%) {1} {}", "catch {} m(%)", "array set m {% 1}", "upvar 0 m(%) y"}) {
            check.fresh().gives("set i 0;while {$i<99} {set m($i) 1;incr i};unset m(7)", "");
            Check.due("the code of " + write, check.run(write.replace("%", "new")), 0);
            check.meets(write.replace("%", "more"), 3).gives("info exists m(more)", "0").gives("set m(7) 3", "3");
        }
        check.gives("unset m;set m(more) 1;array size m", "1").gives("set n(more) 1", "1");
    }

    private static void manyCommands() {
        Check check = Check.of("or there would be more than 150 commands.");
        check.gives("set i 0;while {$i<112} {proc p$i {} {};incr i}", "").counts(4, 150)
                .meets("proc more {} {}", 3).counts(4, 150).fails("more", "no such command: more");
        check.gives("proc p5 {} {list new};p5", "new").gives("proc set {n v} {};rename p6 q6", "")
                .counts(4, 150).meets("proc p6 {} {}", 3).gives("rename q6 {}", "").counts(4, 149)
                .gives("proc p6 {} {}", "").counts(4, 150);
    }

    private static void openCalls() {
        Check check = Check.of("4 a 41st procedure call would be open");
        check.gives("proc f n {if {$n > 1} {f [incr n -1]} else {info level}};f 40", "40")
                .counts(3, 40).meets("f 41", 4).counts(3, 40).gives("f 40;f 40", "40")
                .counts(3, 40);
        check.fails("proc g {n x} {};proc h n {if {$n > 1} {h [incr n -1]} else {g}};h 40", "wrong arguments: g")
                .meets("h 41", 4).gives("info level", "0");
    }

    /** A script that evaluates another one, so many times in one another. */
    private static String nested(int times, String inner) {
        return Check.times("eval {", times) + inner + Check.times("}", times);
    }

    private static void evaluations() {
        Check.of("a 101st script, expression or KEY would be in evaluation (a KEY while it is substituted)");
        String[] more = {"list [list]", "expr 1", "list $m(1)", "p", "catch {}", "while 0 {}", "foreach a b {}",
                "uplevel #0 list", "switch a {a {}}", "if 0 {}", "for {} 0 {} {}", "list \"$m(1)\"", "subst {[]}",
                "subst {$m(1)}"};
        for (String inner : more) {
            Check check = new Check();
            check.gives("set m(1) 1;proc p {} {}", "");
            Check.due("the code of " + inner, check.run(nested(98, inner)), 0);
            check.counts(2, 100).fresh().gives("set m(1) 1;proc p {} {}", "")
                    .meets(nested(99, inner), 4).counts(2, 100);
        }
        for (String inner : new String[] {"list", "subst a", "set m(1)", "list ${m(1)}"}) {
            Check check = new Check();
            check.gives("set m(1) 1", "1");
            Check.due("the code of " + inner, check.run(nested(99, inner)), 0);
            check.counts(2, 100).fresh().meets(nested(100, inner), 4).counts(2, 100);
        }
        new Check().gives("list \"a\" \"b\";list [list]", "{}").counts(2, 2)
                .gives("subst a;subst b;list [list]", "{}").counts(2, 2)
                .gives("expr {\"1\"};expr {\"1\"};expr {[list 1]}", "1").counts(2, 3);
        new Check().gives("set m(1) 1;list $m($m(1))", "1").counts(2, 3)
                .gives("list $m(1) $m(1)[list]", "1 1").counts(2, 2)
                .gives("expr {$m(1)+[list 1]}", "2").counts(2, 3);
    }

    /** Each of these opens one of [ and KEYS; so many stand in one another. */
    private static String open(String first, String second, int times, String inner) {
        StringBuilder text = new StringBuilder(inner);
        for (int i = times; i > 0; i--) {
            String opening = i % 2 == 1 ? first : second;
            text.insert(0, opening).append(opening.startsWith("[") ? "]" : ")");
        }
        return text.toString();
    }

    private static void readBrackets() {
        Check.of("when a command, an expression, a text of subst is read, a 21st of [ and KEYS would be open in one another in it");
        String[][] kinds = {{"[list ", "[list "}, {"$m(", "$m("}, {"[list ", "$m("}, {"$m(", "[list "}};
        for (String[] kind : kinds) {
            for (String reader : new String[] {"list %", "list \"%\"", "list {*}%", "expr {%}", "expr {\"%\"}",
                    "subst {%}", "if {%} {list 1}", "catch {list %} e;set e"}) {
                new Check().gives("set m(1) 1;" + reader.replace("%", open(kind[0], kind[1], 20, "1")), "1");
                new Check().meets("set m(1) 1;" + reader.replace("%", open(kind[0], kind[1], 21, "1")), 4);
            }
        }
        Check check = new Check();
        check.gives("string length {" + Check.times("[", 21) + "}", "21")
                .gives("llength [list " + Check.times("[list a] ", 21) + "]", "21")
                .meets("list " + Check.times("[", 21), 4)
                .fails("list " + Check.times("[", 20), "missing bracket");
        check.meets("list " + Check.times("$m(", 21), 4)
                .fails("list " + Check.times("$m(", 20), "missing parenthesis")
                .meets("puts yes;list " + Check.times("[", 21), 4);
        Check.due("OUT of the commands ahead", check.out(), "yes\n");
        check.fails("list {a}b " + Check.times("[", 21), "more behind brace")
                .gives("set x [list 1];eval {list " + open("[list ", "[list ", 20, "$x") + "}", "1");
    }

    private static void readExpressions() {
        Check.of("or in an expression a 21st of: ( to its ) , a sign ahead to the end of its operand, ? to the end of what is behind its :");
        String[][] rows = {{"(", "1", ")"}, {"-", "1", ""}, {"!", "1", ""}, {"~", "1", ""}, {"+", "1", ""}, {"abs(",
                "1", ")"}, {"min(2,", "1", ")"}, {"max(0,", "1", ",0)"}, {"1?", "1", ":0"}, {"0?0:", "1", ""}};
        for (String[] row : rows) {
            Check check = new Check();
            Check.due("the code of 20 of " + row[0], check.run("expr {" + Check.times(row[0],
                    20) + row[1] + Check.times(row[2], 20) + "}"), 0);
            check.meets("expr {" + Check.times(row[0], 21) + row[1] + Check.times(row[2], 21) + "}", 4)
                    .meets("if {" + Check.times(row[0], 21) + row[1] + Check.times(row[2], 21) + "} {}", 4);
        }
        Check check = new Check();
        check.gives("expr {" + Check.times("-(", 10) + "1" + Check.times(")", 10) + "}", "1")
                .meets("expr {" + Check.times("-(", 10) + "-1" + Check.times(")", 10) + "}", 4)
                .meets("expr {" + Check.times("(0?0:", 10) + "-1" + Check.times(")", 10) + "}", 4);
        check.gives("expr {" + Check.times("-1+", 30) + "-1}", "-31")
                .gives("expr {" + Check.times("(1)+", 30) + "(1)}", "31")
                .gives("expr {" + Check.times("(1?1:0)+", 30) + "1}", "31")
                .gives("expr {" + Check.times("-(1)*", 20) + "-1}", "-1");
        check.gives("expr {" + Check.times("(", 20) + open("[list ", "[list ", 20, "1") + Check.times(")", 20) + "}", "1")
                .gives("expr {-(" + Check.times("(", 18) + "2" + Check.times(")", 18) + ")+(1?2:3)}", "0");
        check.gives("expr {1?" + Check.times("(", 19) + "5" + Check.times(")", 19) + ":0}", "5")
                .meets("expr {1?" + Check.times("(", 20) + "5" + Check.times(")", 20) + ":0}", 4)
                .meets("expr {1?0:" + Check.times("(", 20) + "5" + Check.times(")", 20) + "}", 4);
        check.gives("expr {" + Check.times("(", 20) + "1" + Check.times(")", 20) + "?" + Check.times("(", 19) + "2" + Check.times(")", 19) + ":3}", "2")
                .meets("expr {" + Check.times("(", 21) + "}", 4)
                .fails("expr {" + Check.times("(", 20) + "}", "no expression: " + Check.times("(", 20));
    }
}
