/** Section 1 of the document, its READ and SUBSTITUTED: each sentence that names a boundary. */
public final class ReadingBoundsTest {
    public static void main(String[] args) {
        bytes();
        commandByCommand();
        aheadOfCommands();
        notes();
        words();
        bracedWords();
        quotedWords();
        bareWords();
        expandedWords();
        scriptParts();
        variableParts();
        escapes();
        escapedNumbers();
        missing();
        innermost();
        substituted();
        expanded();
        Check.finish();
    }

    private static void bytes() {
        Check check = Check.of("All values are TEXTS, rows of bytes.");
        StringBuilder all = new StringBuilder();
        for (int c = 0; c < 256; c++) {
            all.append((char) c);
        }
        check.gives("set x " + Check.quoted(all.toString()), all.toString());
        check.fresh().gives("set x " + Check.quoted(all.toString()) + ";string length $x", "256").gives("set x", all.toString());
        check.fresh();
        check.gives("set x \u0000\u007f\u0080\u00ff", "\u0000\u007f\u0080\u00ff");

        check = Check.of("A BLANK is byte 9 or 32");
        for (int c = 0; c < 256; c++) {
            boolean blank = c == 9 || c == 32;
            // A command would end there, or a part begin.
            if (c != 10 && ";$[]\\".indexOf(c) < 0) {
                check.fresh().gives("llength [list a" + (char) c + "b]", blank ? "2" : "1");
            }
        }

        check = Check.of("WHITE is 9 to 13 or 32.");
        for (int c = 0; c < 256; c++) {
            boolean white = c >= 9 && c <= 13 || c == 32;
            if (c != '\\') {
                check.fresh().gives("llength " + Check.quoted("a" + (char) c + "b"), white ? "2" : "1");
            }
        }

        check = Check.of("NAME below is a text as it stands.");
        check.fails("set {a b\n\"}", "no variable a b\n\"").fails("{x  y}", "no such command: x  y");
    }

    private static void commandByCommand() {
        Check check = Check.of("A SCRIPT is a row of commands, with bytes 10 and ; between");
        check.gives("set a 1\nset b 2;set c 3", "3").gives("list $a $b $c", "1 2 3");
        check.fails("set a 1\rset b 2", "wrong arguments: set").fails("set a 1\u000bset b 2", "wrong arguments: set");
        check.gives("", "").counts(1, 0);

        check = Check.of("each is READ whole (so far as its words go), then its words are substituted, then it is RUN; then the next one is read.");
        check.ends("puts [puts a] {", 1, "missing brace");
        Check.due("OUT of a command that is not read whole", check.out(), "");
        check.ends("puts [puts a]$none", 1, "no variable none");
        Check.due("OUT of a command whose words are not there", check.out(), "a\n");
        check.fails("set x 1;list $x;list \"", "missing quote").gives("set x", "1");

        check = Check.of("What is missing is told when the command that lacks it is read: the ones ahead have been run.");
        check.ends("puts a;puts b\nputs {c", 1, "missing brace");
        Check.due("OUT of the commands ahead", check.out(), "a\nb\n");
        check.ends("list [puts a;puts \"]", 1, "missing quote");
        Check.due("OUT of what is in one command with it", check.out(), "");
    }

    private static void aheadOfCommands() {
        Check check = Check.of("bytes 10, BLANKS, ; and \\ with 10 behind it ahead of a command are passed over.");
        check.gives("\\\n# note", "").gives(";\\\n \\\n#;list", "").gives("\n\t ;\\\n;;list a", "a").gives("\\\n", "").gives("list [\n;\\\n list b]", "b");
        check.fails("\rlist", "no such command: \rlist").fails("\u000blist", "no such command: \u000blist");
        check.gives("\\list c", "c").fails("\\", "no such command: \\");
    }

    private static void notes() {
        Check check = Check.of("A # there begins a note, up to behind the next 10");
        check.gives("# list a\nlist b", "b").gives("#\nlist b", "b").gives("#;list a\nlist b", "b");
        check.gives(" ;#{[\"\nlist b", "b").gives("list a #b", "a {#b}").gives("list #", "{#}").gives("list a;#", "a");
        check.gives("list [#]\nlist b]", "b");

        check = Check.of("up to behind the next 10 that has no \\ ahead of it (a \\ in a note goes with the byte behind it), or to the end.");
        check.gives("# a\\\nlist b\nlist c", "c").gives("# a\\\\\nlist b\nlist c\\\n", "c");
        check.gives("# a\\\\\nlist b", "b").gives("# a\\\\\\\nlist b", "").gives("# a\\b\nlist c", "c");
        check.gives("list a;# to the end", "a").gives("# a\\", "").gives("list a;# b\\\n", "a")
                .fails("list [# a ]", "missing bracket");
    }

    private static void words() {
        Check check = Check.of("A command's WORDS have BLANKS (or \\ and 10) between");
        check.fails("list [puts no] a\\\n{b", "missing brace").fails("list [list [puts no] a\\\n\"b]", "missing quote");
        Check.due("OUT of what goes on behind \\ and 10", check.out(), "");
        check.gives("list a \t b", "a b").gives("list a\\\nb", "a b")
                .gives("list a \\\n\t\\\n b", "a b").gives("list a\\\n", "a");
        check.gives("list a\\nb", "{a\nb}").gives("list a\rb", "{a\rb}");

        check = Check.of("the command ends ahead of a 10 or ; or at the script's end (of a script in [ ] ahead of its ] ).");
        check.gives("list a\nlist b", "b").gives("list a;list b", "b").gives("list b", "b");
        check.gives("set x [list a]b", "ab").gives("set x a]b", "a]b")
                .gives("set x [list a b ]", "a b").gives("set x [list \"a]\"]", "{a]}");
    }

    private static void bracedWords() {
        Check check = Check.of("BRACED, if { is its first byte: up to the } that closes it.");
        check.gives("set x {a b;[c] $d \"}", "a b;[c] $d \"").gives("set x {}", "")
                .gives("set x a{b}", "a{b}").gives("set x }", "}");

        check = Check.of("Within, { and } go by pairs; a \\ and the byte behind it are no brace.");
        check.gives("set x {a{b{}c}d}", "a{b{}c}d").gives("set x {\\{}", "\\{")
                .gives("set x {\\}}", "\\}").gives("set x {\\\\}", "\\\\");
        check.fails("set x {{}", "missing brace").fails("set x {\\}", "missing brace")
                .fails("set x {}}", "more behind brace").gives("set x {\\{\\}\\}}", "\\{\\}\\}");

        check = Check.of("Its text is what is between, as it stands, but \\ with 10 and all BLANKS behind that is one byte 32.");
        check.gives("set x {a\\\nb}", "a b").gives("set x {a\\\n \t b}", "a b")
                .gives("set x {a \\\n}", "a  ").gives("set x {\\\n\\\n}", "  ");
        check.gives("set x {a\\\n\n b}", "a \n b").gives("set x {a\\\n\rb}", "a \rb")
                .gives("set x {a\\nb}", "a\\nb").gives("set x {a\n  b}", "a\n  b");
    }

    private static void quotedWords() {
        Check check = Check.of("QUOTED, if \" is its first byte: up to the next \" (outside of what follows), PARTS within.");
        check.gives("set x \"a b;\n{ } ]\"", "a b;\n{ } ]").gives("set x \"\"", "").gives("set x a\"b", "a\"b");
        check.gives("set {m(\"k)} v;set x \"a[list \"b c\"]d$m(\"k)e\\\"f\"", "a{b c}dve\"f");

        check = Check.of("Behind the } or \" that ends a word must come a BLANK, \\ and 10, or the command's end.");
        for (String word : new String[] {"{a}", "\"a\""}) {
            String error = word.charAt(0) == '{' ? "more behind brace" : "more behind quote";
            check.gives("list " + word + " b", "a b").gives("list " + word + "\tb", "a b")
                    .gives("list " + word + "\\\nb", "a b");
            check.gives("list " + word, "a").gives("list " + word + ";list", "")
                    .gives("list " + word + "\nlist", "").gives("list [list " + word + "]", "a");
            check.fails("list " + word + "b", error).fails("list " + word + "]", error)
                    .fails("list " + word + "{b}", error).fails("list " + word + "\"b\"", error);
            check.fails("list " + word + "\\n", error).fails("list " + word + "\\", error)
                    .fails("list " + word + "\r", error).fails("list [list " + word + "$]", error);
        }
    }

    private static void bareWords() {
        Check check = Check.of("else BARE: PARTS up to a BLANK, \\ and 10, or the command's end.");
        check.gives("list a[list b c]d\te", "{ab cd} e").gives("list a\\\nb", "a b")
                .gives("list a;list b\nlist c", "c").gives("list a\\ b", "{a b}");
        check.gives("set x a\rb", "a\rb").gives("set x a#b", "a#b").gives("set x [set x a]", "a")
                .gives("set x 'a\"{", "'a\"{");
    }

    private static void expandedWords() {
        Check check = Check.of("EXPANDED, if {*} stands ahead of one of these and what comes behind it is neither a BLANK, \\ and 10, nor the command's end.");
        check.gives("set l {a b};llength [list {*}{a b} {*}\"a b\" {*}$l {*}a\\ b {*}\\x61]", "9");
        check.gives("list {*} b", "* b").gives("list {*}\tb", "* b").gives("list {*}\\\nb", "* b")
                .gives("list {*}", "*").gives("list {*};", "*").gives("list {*}\n", "*");
        check.gives("set x [list {*}]", "*").gives("set x [list {*}a]", "a")
                .gives("list {*}]", "{]}").gives("list {*}\\n", "").gives("list {*}\r", "");
        check.gives("set x a{*}b", "a{*}b").gives("list \"{*}\" b", "{{*}} b")
                .fails("list {*}{*}a", "more behind brace")
                .fails("list {**}a", "more behind brace");
    }

    private static void scriptParts() {
        Check check = Check.of("[ a script ] : read as a script to the ] that ends it (its commands are read whole, one after the other).");
        check.gives("set x [list a;list b\nlist c]", "c").gives("set x []", "")
                .gives("set x [list {]}][list \"]\"]", "{]}{]}")
                .gives("set x [list [list ]]]", "{}]");
        check.ends("set x [puts a;puts {b]", 1, "missing brace");
        Check.due("OUT of a script that is not read whole", check.out(), "");
        check.fails("set x [list {a}b]", "more behind brace").fails("set x [list $m(]", "missing parenthesis");
    }

    private static void variableParts() {
        Check check = Check.of("$ with a name (letters, digits, _ ; one at least), or that and at once ( KEY )");
        check.gives("set azAZ_09 u;set a 1;set z 2;set A 3;set Z 4;set 0 5;set 9 6", "6")
                .gives("set x $azAZ_09$a$z$A$Z$0$9", "u123456").gives("set x $`$@$[list]$/$:", "$`$@$$/$:");
        check.gives("set aZ_9 v;set m(k) w;set x $aZ_9-$m(k)", "v-w").gives("set 0 z;set x $0", "z")
                .gives("set _ u;set x $_.$_", "u.u");
        check.gives("set x $", "$").gives("set x $$", "$$").gives("set x $(k)", "$(k)")
                .gives("set x $-", "$-").gives("set x $\\x61", "$a");
        check.gives("set m2 q;set x $m2 ;set x $m2\\(k)", "q(k)").fails("set x $m", "m is an array")
                .fails("set x $m-(k)", "m is an array");

        check = Check.of("the KEY goes to the next ) , PARTS within (BLANKS, ; 10, \" and ] are themselves there).");
        check.gives("set \"m(a b\\t;\\n\\\"\\])\" v;set x $m(a b\t;\n\"])", "v")
                .gives("set i 1;set m(11) w;set x $m($i[list 1])", "w");
        check.gives("set m(\\{) b;set x $m({)", "b").gives("set m() e;set x $m()", "e")
                .gives("set m(a)b) c;set x ${m(a)b)}", "c");
        check.fails("set x $m(a)b)", "no element m(a)").gives("set x $m(\\x31\\x31)", "w");

        check = Check.of("${ and all up to the next } : a name as it stands.");
        check.gives("set \"a \\$b\\[c]\\\\\" v;set x ${a $b[c]\\}", "v").gives("set {} e;set x a${}b", "aeb");
        check.fails("set x ${a{b}c}", "no variable a{b").gives("set m(k) w;set x ${m(k)}", "w");

        check = Check.of("(A $ otherwise is itself.)");
        check.gives("set x a$", "a$").gives("set x \"$ $\"", "$ $").gives("set x $[list a]$", "$a$")
                .gives("set x $\"", "$\"");
    }

    private static void escapes() {
        Check check = Check.of("\\ and a byte: a 7, b 8, f 12, n 10, r 13, t 9, v 11;");
        check.gives("set x \\a\\b\\f\\n\\r\\t\\v", "\u0007\b\f\n\r\t\u000b")
                .gives("set x \"\\a\\n\"", "\u0007\n").gives("set x \\A\\c\\N\\u\\w", "AcNuw");

        check = Check.of("10 and all BLANKS behind it: 32");
        check.gives("set x \"a\\\nb\"", "a b").gives("set x \"a\\\n \t \\\n c\"", "a  c")
                .gives("set x \"a\\\n\nb\"", "a \nb").gives("set x \"a\\\n\rb\"", "a \rb");
        check.gives("set \"m( )\" v;set x $m(\\\n \t)", "v").gives("subst " + Check.quoted("a\\\n  b"), "a b");

        check = Check.of("else the byte itself (a \\ at the end of all is itself).");
        check.gives("set x \\\\\\$\\[\\]\\{\\}\\\"\\;\\#\\ \\q\\-", "\\$[]{}\";# q-")
                .gives("set x \\\u0000\\\u00ff\\\r", "\u0000\u00ff\r");
        check.gives("set x a\\", "a\\").gives("set x \\", "\\")
                .gives("subst " + Check.quoted("a\\"), "a\\").fails("set x \"a\\", "missing quote");

        check = Check.of("All other bytes are themselves.");
        check.gives("set x ab!%&/()=?'*+~-_.:,<>|@^`\u0001\u007f\u0080\u00ff",
                "ab!%&/()=?'*+~-_.:,<>|@^`\u0001\u007f\u0080\u00ff");
    }

    private static void escapedNumbers() {
        Check check = Check.of("up to three digits 0 to 7: the byte of their last eight bits");
        check.gives("set x \\0|\\7|\\12|\\101", "\u0000|\u0007|\n|A")
                .gives("set x \\1011\\0000", "A1\u00000").gives("set x \\18\\8\\9", "\u0001889");
        check.gives("set x \\377\\400\\401\\777", "\u00ff\u0000\u0001\u00ff").gives("set x \\78", "\u00078");

        check = Check.of("x and one or two digits 0-9a-fA-F (as many as there are): that byte");
        check.gives("set x \\x0|\\x41|\\xfF|\\xAg", "\u0000|A|\u00ff|\ng")
                .gives("set x \\x414\\x4x", "A4\u0004x").gives("set x \\x\\xg\\X41", "xxgX41");
        check.gives("set x \\x9\\xa", "\t\n").gives("set x \\x/\\x:\\x@\\xG\\x`", "x/x:x@xGx`");
    }

    private static void missing() {
        Check check = Check.of("\"missing brace\" (also of ${ )");
        check.fails("set x {a", "missing brace").gives("set x {a}", "a")
                .fails("set x ${a", "missing brace").fails("set x ${", "missing brace")
                .fails("set x {", "missing brace");
        check.gives("set a 1;set x ${a}", "1").fails("list {*}{a", "missing brace");
        check.gives("subst {$\\{a}", "${a").fails("subst \"\\${a\"", "missing brace");

        check = Check.of("\"missing bracket\"");
        check.fails("set x [list", "missing bracket").gives("set x [list]", "")
                .fails("set x [", "missing bracket").fails("set x [list [list]", "missing bracket")
                .fails("subst \\[", "missing bracket");

        check = Check.of("\"missing quote\"");
        check.fails("set x \"a", "missing quote").gives("set x \"a\"", "a")
                .fails("set x \"", "missing quote").fails("set x \"a\\\"", "missing quote")
                .gives("set x \"a\\\\\"", "a\\");

        check = Check.of("\"missing parenthesis\"");
        check.fails("set x $m(a", "missing parenthesis").gives("set m(a) b;set x $m(a)", "b")
                .fails("set x $m(", "missing parenthesis")
                .fails("set x $m(\\)", "missing parenthesis").gives("set x \\$m(", "$m(");

        check = Check.of("\"more behind brace\", \"more behind quote\".");
        check.fails("set x {a}b", "more behind brace").fails("set x \"a\"b", "more behind quote")
                .fails("set x {*}{a}b", "more behind brace")
                .fails("set x {*}\"a\"b", "more behind quote");
        check.fails("set x {a}b {", "more behind brace").fails("set x [list {a}b", "more behind brace");
    }

    private static void innermost() {
        Check check = Check.of("(no end of these; the innermost one open at the end)");
        check.fails("set x \"[list {a", "missing brace").fails("set x \"[list a", "missing bracket")
                .fails("set x \"$m(a", "missing parenthesis")
                .fails("set x [list \"a]", "missing quote");
        check.fails("set x [list $m(a]", "missing parenthesis")
                .fails("set x $m([list a)", "missing bracket")
                .fails("set x $m(\"a\"", "missing parenthesis")
                .fails("set x $m(${a)", "missing brace");
        check.fails("set x [list {a]", "missing brace").fails("set x {[list \"a", "missing brace")
                .fails("set x [list [list a]", "missing bracket")
                .fails("set x \"[list \"a\"", "missing bracket");
    }

    private static void substituted() {
        Check check = Check.of("SUBSTITUTED, words from the left, parts from the left, each just once");
        check.ends("list [puts 1][puts 2] \"[puts 3]\" {*}[puts 4] [puts 5]", 0, "{} {} {}");
        Check.due("OUT, from the left", check.out(), "1\n2\n3\n4\n5\n");
        check.gives("set a {$b};set c [list $a]", "{$b}").gives("set a 1;list $a[incr a]$a", "122")
                .prints("puts [puts a]", "a\n\n");

        check = Check.of("a script in [ ] is evaluated, its result stands for it; a variable's value stands for $ ..");
        check.gives("set x a[{list} {b}]c", "abc").gives("set x \"a[catch {list b$none}]c\"", "a1c")
                .gives("set x a[catch {list b[error e]}][{concat} {d}]$x", "a1da1c")
                .fails("set x a[\u0000]", "no such command: \u0000");
        check.gives("set x a[list b c][]d", "ab cd").gives("set y a$x${x}b", "aab cdab cdb");

        check = Check.of("(a KEY is substituted first, and is the element's text as it is then; a name of ${ } is split as NAMES are, see 2)");
        check.gives("array set m {a)b 1 a(b 2 (a) 3 {} 4};set k a)b;list $m($k) $m(a(b) ${m(a)b)} ${m((a))} $m() ${m()}",
                "1 2 1 3 4 4");
        check.gives("set k \\$k;array set m [list $k 5];set x $m($k)", "5")
                .fails("set x ${m(a)b}", "no variable m(a)b")
                .fails("set x ${m(z)}", "no element m(z)");

        check = Check.of("What is put in is not looked at again.");
        check.gives("set a {b c;[d] $e \" };llength [list $a [set a] \"$a\"]", "3")
                .gives("set a {[puts no]};set b $a", "[puts no]");
        Check.due("OUT of what is put in", check.out(), "");
    }

    private static void expanded() {
        Check check = Check.of("An EXPANDED word's text is a list: its elements are words.");
        check.gives("llength [list {*}{a {b c} \"d e\" f\\ g}]", "4")
                .fails("list {*}\\{", "no list").fails("list {*}\"{a}b\"", "no list")
                .gives("{*}{list a b}", "a b");

        check = Check.of("Without any word nothing is run, the result is empty.");
        check.gives("list a;{*}{}", "").counts(1, 1).gives("{*}{} {*}\" \"", "").counts(1, 0)
                .gives("{*}{};list a", "a").counts(1, 1).fails("{}", "no such command: ")
                .counts(1, 1);

        check = Check.of("(A script in [ ] has the bytes between; it was read with the command, and is read again, command by command, as it is evaluated.)");
        check.costs("list [ list a ]", 5 + 15 + 4 + (5 + 8 + 4 + 1 + 7 + 1) + 1 + 7 + 1)
                .costs("list []", 5 + 7 + 4 + 5 + 0 + 7 + 2);
    }
}
