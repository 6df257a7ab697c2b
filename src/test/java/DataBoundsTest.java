/** Section 4 of the document, from list to subst: each sentence that names a boundary. */
public final class DataBoundsTest {
    public static void main(String[] args) {
        list();
        lindex();
        lrange();
        lreverseAndLsearch();
        lsort();
        lsortOptions();
        lassign();
        concat();
        join();
        split();
        stringIndexes();
        stringComparing();
        stringFirstAndRepeat();
        stringLetters();
        arrays();
        arraysThatAreNone();
        arraySet();
        info();
        options();
        rename();
        puts();
        subst();
        Check.finish();
    }

    private static void list() {
        Check check = Check.of("list ..");
        check.gives("list", "").gives("list {}", "{}").gives("list a {b c} {}", "a {b c} {}")
                .gives("llength [list {*}[string repeat {a } 100]]", "100");
    }

    private static void lindex() {
        Check check = Check.of("lindex list i: the element; empty, where there is none.");
        check.gives("lindex {a {b c} d} 1", "b c").gives("lindex {a b} 0", "a")
                .gives("lindex {a b} 1", "b").gives("lindex {a b} 2", "")
                .gives("lindex {a b} -1", "").gives("lindex {} 0", "")
                .gives("lindex {a b} end", "b").gives("lindex {a b} end-1", "a")
                .gives("lindex {a b} end-2", "");
        check.fails("lindex \\{ 0", "no list").fails("lindex \\{ x", "no list")
                .fails("lindex a x", "no index: x").gives("lindex {{a b}} 0", "a b")
                .fails("lindex a", "wrong arguments: lindex")
                .fails("lindex a 0 0", "wrong arguments: lindex");

        check = Check.of("llength list.");
        check.gives("llength {}", "0").gives("llength a", "1").gives("llength {{}}", "1")
                .gives("llength { a {b c} }", "2").fails("llength \\{", "no list")
                .gives("llength [string repeat {a } 2000]", "2000");
    }

    private static void lrange() {
        Check check = Check.of("lrange list i j: a list of those from i to j that there are.");
        check.gives("lrange {a b c d} 1 2", "b c").gives("lrange {a b c} 0 end", "a b c")
                .gives("lrange {a b c} 0 2", "a b c").gives("lrange {a b c} 0 3", "a b c")
                .gives("lrange {a b c} -5 0", "a").gives("lrange {a b c} 2 99", "c")
                .gives("lrange {a b c} 3 3", "").gives("lrange {a b c} 3 9", "")
                .gives("lrange {a b c} -2 -1", "");
        check.gives("lrange {a b c} 2 1", "").gives("lrange {a b c} 1 1", "b")
                .gives("lrange {} 0 end", "").gives("lrange {a b c} end-1 end", "b c")
                .gives("lrange {a b c} end 0", "").gives("lrange {a b c} end-9 end-2", "a")
                .gives("lrange {{a b} \"c d\"} 0 0", "{a b}")
                .gives("lrange {a b} -9223372036854775808 9223372036854775807", "a b");
        check.fails("lrange {a b} 0 x", "no index: x").fails("lrange {a b} x y", "no index: x")
                .fails("lrange \\{ x y", "no list");
    }

    private static void lreverseAndLsearch() {
        Check check = Check.of("lreverse list.");
        check.gives("lreverse {}", "").gives("lreverse a", "a")
                .gives("lreverse {a {b c} {}}", "{} {b c} a").fails("lreverse \\{", "no list");

        check = Check.of("lsearch list text: the first index of it; -1.");
        check.gives("lsearch {a b a} a", "0").gives("lsearch {a b c} c", "2")
                .gives("lsearch {a b} d", "-1").gives("lsearch {} {}", "-1")
                .gives("lsearch {a {}} {}", "1").gives("lsearch {{a b}} {a b}", "0")
                .gives("lsearch {ab} a", "-1").gives("lsearch {a} ab", "-1")
                .gives("lsearch {01 1} 1", "1").gives("lsearch {a*} a*", "0")
                .gives("lsearch {abc} a*", "-1").fails("lsearch \\{ a", "no list");
    }

    private static void lsort() {
        Check check = Check.of("lsort <-integer> <-decreasing> list: (each once, either one first) by bytes (a beginning first), or as WHOLES (looked at from the first on)");
        check.gives("lsort {}", "").gives("lsort a", "a").gives("lsort {b a}", "a b")
                .gives("lsort {ab a abc b}", "a ab abc b").gives("lsort {10 9 2 1}", "1 10 2 9")
                .gives("lsort {a B _ 0}", "0 B _ a").gives("lsort [list b {} a]", "{} a b")
                .gives("lsort \"\\x80 a \\xff \\x7f\"", "a \u007f \u0080 \u00ff")
                .gives("lsort {c a b a c}", "a a b c c");
        check.gives("lsort -integer {10 9 -2 0x1}", "-2 0x1 9 10").gives("lsort -integer {}", "")
                .gives("lsort -integer {9223372036854775807 -9223372036854775808 0}", "-9223372036854775808 0 9223372036854775807")
                .fails("lsort -integer {1 b c}", "no whole: b")
                .fails("lsort -integer {x}", "no whole: x")
                .fails("lsort -integer {1 9223372036854775808}", "no whole: 9223372036854775808");
        check.gives("lsort -integer [list { 2 } 1]", "1 { 2 }")
                .fails("lsort -integer \\{", "no list")
                .fails("lsort -integer {{} 1}", "no whole: ");

        check = Check.of("-decreasing: the greater ones first; like ones as they stood.");
        check.gives("lsort -decreasing {a c b}", "c b a")
                .gives("lsort -decreasing {a ab {}}", "ab a {}")
                .gives("lsort -decreasing -integer {1 10 9}", "10 9 1")
                .gives("lsort -integer {1 01 +1 0 0x1}", "0 1 01 +1 0x1")
                .gives("lsort -integer -decreasing {0 1 01 2 +1 0x1}", "2 1 01 +1 0x1 0")
                .gives("lsort -integer {3 03 2 02 1 01 003 002 001}", "1 01 001 2 02 002 3 03 003");
    }

    private static void lsortOptions() {
        Check check = Check.of("(each once, either one first)");
        check.gives("lsort -integer -decreasing {1 2}", "2 1")
                .gives("lsort -decreasing -integer {1 2}", "2 1")
                .fails("lsort -integer -integer {1 2}", "wrong arguments: lsort")
                .fails("lsort -decreasing -decreasing {1 2}", "wrong arguments: lsort")
                .fails("lsort -integer -decreasing -integer {1 2}", "wrong arguments: lsort");
        check.fails("lsort", "wrong arguments: lsort").gives("lsort -integer", "-integer")
                .gives("lsort -decreasing", "-decreasing").gives("lsort -integer 5", "5")
                .fails("lsort -integer -decreasing", "no whole: -decreasing")
                .fails("lsort -Integer {1}", "wrong arguments: lsort")
                .fails("lsort -increasing {1}", "wrong arguments: lsort")
                .fails("lsort {1} -integer", "wrong arguments: lsort")
                .fails("lsort -x \\{", "wrong arguments: lsort");
    }

    private static void lassign() {
        Check check = Check.of("lassign list ..: names get the elements, empty where there are none; a list of those left.");
        check.gives("lassign {1 2 3} a b", "3").gives("list $a $b", "1 2")
                .gives("lassign {1 2} a b", "").gives("lassign {5} a b", "")
                .gives("list $a $b", "5 {}").gives("lassign {} a", "").gives("set a", "")
                .gives("lassign { x {y z} }", "x {y z}")
                .gives("lassign {1 2} m(x) m(y);array get m", "x 1 y 2")
                .gives("lassign {1 2} a a;set a", "2");
        check.fails("lassign \\{ c", "no list").gives("info exists c", "0")
                .fails("lassign {1 2 3} c m d", "m is an array")
                .gives("list $c [info exists d]", "1 0")
                .fails("lassign", "wrong arguments: lassign");
    }

    private static void concat() {
        Check check = Check.of("concat ..: the texts without WHITE around, those that are not empty, with a blank between.");
        check.gives("concat", "").gives("concat {}", "").gives("concat { } {}", "")
                .gives("concat a {} b", "a b").gives("concat { a } \"\\tb  c\\n\"", "a b  c")
                .gives("concat \"\\x0b\\x0c\\ra\\r\\x0c\\x0b\" b", "a b")
                .gives("concat {{a b}} c", "{a b} c").gives("concat \\{ \\}", "{ }")
                .gives("concat \"\\x08a\\x0e\" b", "\ba\u000e b").gives("concat \" a\"", "a");
    }

    private static void join() {
        Check check = Check.of("join list <text>: (a blank) the elements with it between.");
        check.gives("join {a {b c} d}", "a b c d").gives("join {a b c} ,", "a,b,c")
                .gives("join {a b c} {}", "abc").gives("join {a b} {, }", "a, b")
                .gives("join {} x", "").gives("join a x", "a").gives("join {{} {}} x", "x")
                .gives("join {{} {}}", " ").fails("join \\{", "no list")
                .fails("join a b c", "wrong arguments: join");
    }

    private static void split() {
        Check check = Check.of("split text <bytes>: (all WHITE) a list of what is between these bytes; of each byte, if there are none; of an empty text empty.");
        check.gives("split {a b  c}", "a b {} c")
                .gives("split \"a\\tb\\nc\\x0bd\\x0ce\\rf\"", "a b c d e f")
                .gives("split \"a\\x08b\\x0ec\"", "a\bb\u000ec").gives("split a,b,,c ,", "a b {} c")
                .gives("split ,a, ,", "{} a {}").gives("split , ,", "{} {}")
                .gives("split a-b,c ,-", "a b c").gives("split abc ,", "abc")
                .gives("split {a b} ,", "{a b}");
        check.gives("split abc {}", "a b c").gives("split a {}", "a")
                .gives("split {a b} {}", "a { } b").gives("split \"\\{\\}\" {}", "\\{ \\}")
                .gives("split {}", "").gives("split {} ,", "").gives("split {} {}", "")
                .gives("split { }", "{} {}").gives("split aXbxc x", "aXb c")
                .gives("split \"a\\x00b\\xffc\" \"\\xff\\x00\"", "a b c");
    }

    private static void stringIndexes() {
        Check check = Check.of("string length t");
        check.gives("string length {}", "0").gives("string length abc", "3")
                .gives("string length \"\\x00\\xff\"", "2")
                .gives("string length [string repeat a 4000]", "4000");
        check = Check.of("index t i");
        check.gives("string index abc 0", "a").gives("string index abc 2", "c")
                .gives("string index abc 3", "").gives("string index abc -1", "")
                .gives("string index abc end", "c").gives("string index abc end-2", "a")
                .gives("string index abc end-3", "").gives("string index {} 0", "")
                .gives("string index {} end", "").fails("string index abc x", "no index: x")
                .fails("string index {} x", "no index: x");
        check = Check.of("range t i j");
        check.gives("string range abcd 1 2", "bc").gives("string range abcd 0 end", "abcd")
                .gives("string range abcd 0 3", "abcd").gives("string range abcd 0 4", "abcd")
                .gives("string range abcd -9 0", "a").gives("string range abcd 3 9", "d")
                .gives("string range abcd 4 9", "").gives("string range abcd 2 1", "")
                .gives("string range abcd 2 2", "c").gives("string range abcd -3 -1", "")
                .gives("string range abcd end-1 end", "cd");
        check.gives("string range {} 0 end", "").gives("string range abcd end-9 end-3", "a")
                .fails("string range abcd 0 x", "no index: x")
                .fails("string range abcd x y", "no index: x")
                .gives("string range abcd -9223372036854775808 9223372036854775807", "abcd")
                .gives("string range abcd 9223372036854775807 9223372036854775807", "");
    }

    private static void stringComparing() {
        Check check = Check.of("equal t u");
        check.gives("list [string equal a a] [string equal a b] [string equal {} {}] [string equal a {}] [string equal {} a] [string equal a A] [string equal 1 01] [string equal ab a] [string equal a ab]",
                "1 0 1 0 0 0 0 0 0");
        check = Check.of("compare t u: -1, 0, 1, by bytes, a beginning first");
        check.gives("list [string compare a b] [string compare b a] [string compare a a] [string compare a ab] [string compare ab a] [string compare {} a] [string compare a {}] [string compare {} {}]", "-1 1 0 -1 1 -1 1 0")
                .gives("list [string compare \\x7f \\x80] [string compare \\xff a] [string compare \\x00 {}] [string compare a z] [string compare Z a] [string compare 10 9] [string compare az b]", "-1 1 1 -1 -1 -1 -1");
    }

    private static void stringFirstAndRepeat() {
        Check check = Check.of("first t u: where t first is in u, -1 (also an empty t)");
        check.gives("list [string first a abca] [string first c abc] [string first bc abc] [string first abc abc] [string first abcd abc] [string first d abc] [string first {} abc] [string first {} {}] [string first a {}] [string first aab aaab]",
                "0 2 1 0 -1 -1 -1 -1 -1 1");
        check = Check.of("repeat t n: (n a WHOLE; below 0 as 0)");
        check.gives("string repeat ab 3", "ababab").gives("string repeat ab 1", "ab")
                .gives("string repeat ab 0", "").gives("string repeat ab -1", "")
                .gives("string repeat ab -9223372036854775808", "")
                .gives("string repeat {} 9223372036854775807", "")
                .gives("string repeat a { 0x3 }", "aaa").fails("string repeat a x", "no whole: x")
                .fails("string repeat a {}", "no whole: ")
                .fails("string repeat {} x", "no whole: x");
    }

    private static void stringLetters() {
        Check check = Check.of("reverse t");
        check.gives("string reverse abc", "cba").gives("string reverse {}", "")
                .gives("string reverse a", "a")
                .gives("string reverse \"\\x00\\xff\"", "\u00ff\u0000");
        check = Check.of("toupper t   tolower t: (letters a-z)");
        check.gives("string toupper `az{AZ@\\[", "`AZ{AZ@[")
                .gives("string tolower `az{AZ@\\[", "`az{az@[")
                .gives("string toupper \"\\xe4\\xff1_\"", "\u00e4\u00ff1_")
                .gives("string tolower \"\\xc4\\xdf1_\"", "\u00c4\u00df1_")
                .gives("string toupper {}", "").gives("string tolower bcyBCY", "bcybcy")
                .gives("string toupper bcyBCY", "BCYBCY");
        check = Check.of("trim t.");
        check.gives("string trim {  a b  }", "a b")
                .gives("string trim \"\\t\\n\\x0b\\x0c\\r a\\r\\x0c\\x0b\\n\\t\"", "a")
                .gives("string trim { }", "").gives("string trim {}", "")
                .gives("string trim a", "a").gives("string trim \"\\x08a\\x0e\"", "\ba\u000e")
                .gives("string trim \"\\x1fa!\"", "\u001fa!");
    }

    private static void arrays() {
        Check check = Check.of("array exists a   size a   names a   get a: a list of names and values");
        check.gives("set m(b) 1;set m(a) {x y};list [array exists m] [array size m] [array names m] [array get m]", "1 2 {b a} {b 1 a {x y}}")
                .gives("set m() {};array get m", "b 1 a {x y} {} {}")
                .gives("array names m", "b a {}");

        check = Check.of("(elements in the order in which they became known; UNSET ones are left out");
        check.gives("set m(c) 1;set m(a) 2;upvar 0 m(b) x;set m(d) 3;list [array names m] [array size m]", "{c a d} 3")
                .gives("set x 4;array get m", "c 1 a 2 b 4 d 3")
                .gives("unset m(c);list [array names m] [array size m] [array get m]", "{a b d} 3 {a 2 b 4 d 3}")
                .gives("set m(c) 5;array names m", "c a b d")
                .gives("unset m(a) m(b) m(c) m(d);list [array exists m] [array size m] [array names m]", "1 0 {}");
    }

    private static void arraysThatAreNone() {
        Check check = Check.of("of what is no array, or split: 0, 0, empty, empty; unset: nothing");
        check.gives("set t 1;set m(k) 2;upvar 0 u v", "");
        for (String name : new String[] {"none", "t", "m(k)", "m(z)", "none(k)", "t(k)", "u", "v", "{}"}) {
            check.gives("list [array exists " + name + "] [array size " + name + "] [array names " + name + "] [array get " + name + "] [array unset " + name + "]",
                    "0 0 {} {} {}");
        }
        check.gives("list $t [array get m]", "1 {k 2}").counts(5, 4)
                .gives("array unset m;info exists m", "0").counts(5, 4).gives("array unset m", "")
                .gives("set n(a) 1;upvar 0 n o;array unset o;info exists n", "0");
    }

    private static void arraySet() {
        Check check = Check.of("set a pairs (\"no pairs\")");
        check.gives("array set m {a 1 b {2 3}};array get m", "a 1 b {2 3}")
                .gives("array set m {a 4 c 5};array get m", "a 4 b {2 3} c 5")
                .fails("array set m a", "no pairs").fails("array set m {a 1 b}", "no pairs")
                .fails("array set m \\{", "no list").gives("array get m", "a 4 b {2 3} c 5")
                .gives("array set n {a 1 a 2};array get n", "a 2");

        check = Check.of("set: each pair is written; \"NAME is no array\" of a name that is split, behind \"no pairs\", also without any).");
        check.gives("array set m {}", "").counts(5, 0).gives("array exists m", "0")
                .fails("array set m(k) {}", "m(k) is no array")
                .fails("array set m(k) {a 1}", "m(k) is no array")
                .fails("array set m(k) a", "no pairs").fails("array set m(k) \\{", "no list")
                .counts(5, 0).gives("set t 1;array set t {}", "")
                .fails("array set t {a 1}", "t is no array");
        check.gives("upvar 0 e(x) l", "").fails("array set l {a 1}", "l is no array")
                .gives("array set {} {a 1};array get {}", "a 1")
                .gives("array set n {a(b) 1 ) 2};array get n", "a(b) 1 ) 2");
    }

    private static void info() {
        Check check = Check.of("info exists name: (1 unless it is UNSET or not known)");
        check.gives("set a 1;set e {};set m(k) 2;upvar 0 u v;list [info exists a] [info exists e] [info exists m] [info exists m(k)] [info exists m(z)] [info exists n] [info exists n(k)] [info exists a(k)] [info exists u] [info exists v]", "1 1 1 1 0 0 0 0 0 0")
                .counts(5, 5);
        check.gives("unset a m(k);list [info exists a] [info exists m(k)] [info exists m]", "0 0 1")
                .gives("unset m;info exists m", "0").gives("set u 1;info exists v", "1");

        check = Check.of("level   args p: the names   body p (\"no procedure: NAME\").");
        check.gives("info level", "0")
                .gives("proc p {a {b 1} args} {list x};list [info args p] [info body p]", "{a b args} {list x}")
                .gives("proc q {} {};list [info args q] [info body q]", "{} {}")
                .fails("info args none", "no procedure: none")
                .fails("info body none", "no procedure: none")
                .fails("info args set", "no procedure: set")
                .fails("info body {}", "no procedure: ");
        check.gives("rename p r;info args r", "a b args").fails("info args p", "no procedure: p")
                .gives("proc set {x} {y};info body set", "y")
                .gives("proc s {{{a b} 1}} {};info args s", "{a b}")
                .fails("rename q {};info body q", "no procedure: q");
    }

    private static void options() {
        Check check = Check.of("(\"wrong arguments: NAME\", NAME being string, array, info, without an option, or with others than these arguments behind it; \"no option: TEXT\" for other options.)");
        Object[][] rows = {{"string", "length", 1}, {"string", "index", 2}, {"string", "range", 3}, {"string", "equal",
                2}, {"string", "compare", 2}, {"string", "first", 2}, {"string", "repeat", 2}, {"string", "reverse", 1},
                {"string", "toupper", 1}, {"string", "tolower", 1}, {"string", "trim", 1}, {"array", "exists", 1}, {"array",
                "size", 1}, {"array", "names", 1}, {"array", "get", 1}, {"array", "set", 2}, {"array", "unset", 1},
                {"info", "exists", 1}, {"info", "level", 0}, {"info", "args", 1}, {"info", "body", 1}};
        for (Object[] row : rows) {
            for (int number = 0; number <= 5; number++) {
                check.fresh().run(row[0] + " " + row[1] + Check.times(" 0", number));
                Check.due(row[0] + " " + row[1] + " with " + number + " is right",
                        !check.result().equals("wrong arguments: " + row[0]), number == (Integer) row[2]);
            }
        }
        for (String name : new String[] {"string", "array", "info"}) {
            check.fresh().fails(name, "wrong arguments: " + name).fails(name + " none", "no option: none")
                    .fails(name + " none a b c d", "no option: none")
                    .fails(name + " {}", "no option: ")
                    .fails(name + " Exists a", "no option: Exists")
                    .fails(name + " {exists } a", "no option: exists ");
        }
        check.fresh().fails("string ength a", "no option: ength").fails("array ists a", "no option: ists")
                .fails("info l", "no option: l").fails("string exists a", "no option: exists")
                .fails("array length a", "no option: length")
                .fails("info set a b", "no option: set").fails("string lengt a", "no option: lengt")
                .fails("string lengthx a", "no option: lengthx");
    }

    private static void rename() {
        Check check = Check.of("rename old new: a command gets another name, or, if that is empty, is there no more: \"no such command: OLD\", \"NEW is there already\".");
        check.gives("rename list liste;liste a", "a").counts(4, 38)
                .fails("list a", "no such command: list").gives("rename liste {}", "").counts(4, 37)
                .fails("liste", "no such command: liste")
                .fails("rename liste {}", "no such command: liste")
                .fails("rename none set", "no such command: none")
                .fails("rename set incr", "incr is there already");
        check.fails("rename set set", "set is there already").gives("set a 1", "1")
                .fails("rename {} x", "no such command: ")
                .gives("proc {} {} {set b 2};rename {} named;named", "2")
                .gives("rename rename umbenennen;umbenennen umbenennen rename", "")
                .gives("proc p {} {rename p q;set c 3};p", "3").fails("q", "no such command: p");
    }

    private static void puts() {
        Check check = Check.of("puts <-nonewline> text: OUT gets it, and a 10.");
        check.prints("puts a", "a\n").prints("puts {}", "\n").prints("puts -nonewline a", "a")
                .prints("puts -nonewline {}", "").prints("puts -nonewline", "-nonewline\n")
                .prints("puts -nonewline -nonewline", "-nonewline")
                .prints("puts a;puts -nonewline b;puts c", "a\nbc\n").prints("list", "")
                .prints("puts \"\\x00\\xff\"", "\u0000\u00ff\n");
        check.fails("puts", "wrong arguments: puts").fails("puts a b", "wrong arguments: puts")
                .fails("puts -nonewline a b", "wrong arguments: puts")
                .fails("puts -Nonewline a", "wrong arguments: puts")
                .fails("puts a -nonewline", "wrong arguments: puts");
        Check.due("OUT of what is wrong", check.out(), "");
    }

    private static void subst() {
        Check check = Check.of("subst text: substituted as PARTS, read whole first; the result.");
        check.gives("set a 1;set m(k) 2;subst {$a [list b c] $m(k) ${a} \\x41\\n{$a} \"$a\" ; #}", "1 b c 2 1 A\n{1} \"1\" ; #")
                .gives("subst {}", "").gives("subst {a b}", "a b").gives("subst \"])}\"", "])}");
        check.fails("subst {[puts no]$m(}", "missing parenthesis")
                .fails("subst {[puts no]\u0000$m(}", "missing parenthesis");
        Check.due("OUT of what is read whole first", check.out(), "");
        check.fails("subst \"\\[puts no\"", "missing bracket")
                .fails("subst {[puts no][list {a}b]}", "more behind brace")
                .fails("subst \"\\${a\"", "missing brace").gives("subst {\"a}", "\"a")
                .gives("subst \\{", "{").gives("subst {a\\\n  b}", "a b")
                .ends("subst {[break]}", 3, "").ends("subst {a[return r]b}", 2, "r")
                .fails("subst {$none}", "no variable none").gives("subst {$}", "$")
                .gives("set b {$a};subst {$b}", "$a").gives("subst $b", "1");
    }
}
