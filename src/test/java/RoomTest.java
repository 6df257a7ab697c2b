import java.lang.management.ManagementFactory;

/**
 * Rule 12 of LANGUAGE.md: what a run makes stays small, in proportion to the WORK that it does. Each
 * test compares answers, and holds the bytes that the calls took against the WORK that they did.
 */
public final class RoomTest {
    /** One or two small objects for each of WORK: far less than the room has for all 150000. */
    private static final long BYTES_FOR_WORK = 30;
    /** For what is made once: rows that grow, and what Java itself makes at first. */
    private static final long BYTES_ONCE = 2000000;

    public static void main(String[] args) {
        lappendOfNoList();
        lappendOfListTooLong();
        lappendOfEscapes();
        foreachOfElements();
        foreachOfArrayTakenAway();
        foreachOfArraysLinked();
        foreachOfLinkedElements();
        arraysOfNewFrames();
        elementsLinkedInNewFrames();
        callsWithManyParameters();
        listsOfParameters();
        manyOperands();
        wordsBeyondWork();
        Check.finish();
    }

    private static long taken() {
        java.lang.management.ThreadMXBean threads = ManagementFactory.getThreadMXBean();
        if (threads instanceof com.sun.management.ThreadMXBean) {
            return ((com.sun.management.ThreadMXBean) threads)
                    .getThreadAllocatedBytes(Thread.currentThread().getId());
        }
        return 0;
    }

    /** The bytes taken since then are no more than the WORK of the object lets one expect. */
    private static void small(String what, long before, CommandCore core) {
        long bytes = taken() - before;
        long most = BYTES_ONCE + BYTES_FOR_WORK * core.count(0);
        Check.due(what + ", whether " + bytes + " bytes are no more than " + most, bytes <= most, true);
    }

    private static void lappendOfNoList() {
        long before = taken();
        CommandCore x = new CommandCore();
        Check.due("feed", x.feed(1936028704, 2015386483, 1953655150, 1730179685, 1885692276), 20);
        Check.due("feed", x.feed(539124000, 572535097, 960060731, 1634758757, 1852055672), 40);
        Check.due("feed", x.feed(542931771, 2003331436, 1696608544, 2070110580, 1667768443), 60);
        Check.due("feed", x.feed(1818325104, 1701733408, 2021489952, 538976288, 538976288), 80);
        Check.due("end(71)", x.end(71), 71);
        Check.due("run of lappend, no list", x.run(), -1);
        Check.due("count(1) of lappend, no list", x.count(1), 3080);
        small("lappend, no list", before, x);
    }

    /** LIMIT 2 ends each of these runs, so that there are many of them, with little WORK. */
    private static void lappendOfListTooLong() {
        Check check = new Check();
        check.gives("set l [string repeat \"; \" 1400];llength $l", "1400");
        long before = taken();
        for (int i = 0; i < 150; i++) {
            Check.due("feed", check.core.feed(0x6c617070, 0x656e6420, 0x6c202020, 0x20202020, 0x20202062), 20);
            Check.due("run of lappend, too long", check.core.run(), -2);
        }
        small("lappend, too long", before, check.core);
    }

    private static void lappendOfEscapes() {
        Check check = new Check();
        check.gives("set l [string repeat {\\; } 1300]\\{;llength $l\\}", "1301");
        long before = taken();
        for (int i = 0; i < 50; i++) {
            check.ends("catch {lappend l b};catch {lappend l}", 0, "1");
        }
        small("lappend, escapes", before, check.core);
    }

    private static void foreachOfElements() {
        long before = taken();
        CommandCore x = new CommandCore();
        Check.due("feed", x.feed(1718579813, 1633904672, 1534293106, 1768843040, 1919250533), 20);
        Check.due("feed", x.feed(1635000354, 1831350569, 539107384, 808475936, 2071797865), 40);
        Check.due("feed", x.feed(542864244, 1919512167, 544367984, 1700885536, 573644834), 60);
        Check.due("feed", x.feed(540160048, 811409531, 2099257376, 538976288, 538976288), 80);
        Check.due("end(69)", x.end(69), 69);
        Check.due("run of foreach, elements", x.run(), 0);
        Check.due("count(0) of foreach, elements", x.count(0), 26207);
        small("foreach, elements", before, x);
    }

    private static void foreachOfArrayTakenAway() {
        long before = taken();
        Check check = new Check();
        String tape = "set n {" + elements("m", 100) + "};set l [string repeat \"1 \" 2000];"
                + "while 1 {foreach $n {} i $l {unset m}}";
        Check.due("the bytes of the tape", tape.length(), 668);
        Check.due("run of foreach, array taken away", check.run(tape), -1);
        check.counts(1, 4889);
        small("foreach, array taken away", before, check.core);
    }

    /** Each round has another array under the name, in each of some thirty frames. */
    private static void foreachOfArraysLinked() {
        long before = taken();
        Check check = new Check();
        StringBuilder names = new StringBuilder();
        for (int i = 0; i < 94; i++) {
            names.append(i).append(' ');
        }
        check.meets("set n {" + elements("m", 100) + "};set l {" + names + "};proc p {} {global n l;"
                + "upvar 0 z m;foreach $n {} i $l {upvar 0 $i m};p};p", 1);
        small("foreach, arrays linked", before, check.core);
    }

    /** What is linked to an element lives on, so that the element is made anew; few are linked. */
    private static void foreachOfLinkedElements() {
        long before = taken();
        Check check = new Check();
        check.meets("set n {" + elements("m", 100) + "};set l [string repeat \"1 \" 2000];"
                + "while 1 {foreach $n {} i $l {upvar 0 m(50) x;unset m}}", 1);
        small("foreach, an element linked", before, check.core);
    }

    /** Each call has a new frame, in which each name is an array at once. */
    private static void arraysOfNewFrames() {
        long before = taken();
        Check check = new Check();
        check.meets("set l {" + arrays("") + "};proc p {} {global l;foreach $l {} i 1 {}};while 1 p", 1);
        small("arrays of new frames", before, check.core);
    }

    private static void elementsLinkedInNewFrames() {
        long before = taken();
        Check check = new Check();
        check.meets("set l {" + arrays(" y") + "};proc p {} {global l;upvar 0 {*}$l};while 1 p", 1);
        small("elements linked in new frames", before, check.core);
    }

    private static void callsWithManyParameters() {
        long before = taken();
        Check check = new Check();
        StringBuilder params = new StringBuilder();
        for (int i = 0; i < 100; i++) {
            params.append("{p").append(i).append(" v} ");
        }
        check.meets("proc p {" + params + "} {};while 1 p", 1);
        small("calls with many parameters", before, check.core);
    }

    private static void listsOfParameters() {
        long before = taken();
        Check check = new Check();
        check.meets("set l [string repeat {a } 2000];while 1 {proc p $l {}}", 1);
        small("lists of parameters", before, check.core);
    }

    private static void manyOperands() {
        long before = taken();
        Check check = new Check();
        check.meets("set i 2;set x [string repeat {$i*} 1333]1;while 1 {expr $x}", 1);
        small("many operands", before, check.core);
    }

    /** A word that WORK does not let be taken is not made either. */
    private static void wordsBeyondWork() {
        Check check = new Check();
        check.meets("set x [string repeat a 4000];while 1 {set x}", 1);
        long before = taken();
        for (int i = 0; i < 100; i++) {
            Check.due("feed", check.core.feed(0x6c697374, 0x20247820, 0x20202020, 0x20202020, 0x20202020), 20);
            Check.due("run of a word beyond WORK", check.core.run(), -1);
        }
        Check.due("bytes of words beyond WORK", taken() - before < 300000, true);
    }

    /** An element of each of some fifty arrays, whose names have one byte. */
    private static String arrays(String behind) {
        StringBuilder names = new StringBuilder();
        for (char c = 'A'; c <= 'w'; c++) {
            if (Character.isLetter(c) && c != 'l' && c != 'i') {
                names.append(c).append("()").append(behind).append(' ');
            }
        }
        return names.toString();
    }

    private static String elements(String array, int number) {
        StringBuilder names = new StringBuilder();
        for (int i = 0; i < number; i++) {
            names.append(i > 0 ? " " : "").append(array).append('(').append(i).append(')');
        }
        return names.toString();
    }
}
