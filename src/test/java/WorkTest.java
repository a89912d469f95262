/** Promise 3: what is counted as WORK, the LIMIT, FULL and depth. Numbers are counted by hand from the document. */
public final class WorkTest {
    public static void main(String[] args) {
        commands();
        expressions();
        values();
        calls();
        limit();
        deepCalls();
        longRows();
        longPairs();
        full();
        depth();
        Check.end();
    }

    private static void commands() {
        Check.work("", 0);
        Check.work("# x", 0);
        // 1 begun, 4 + 2 words, 1 answer
        Check.work("set a 1", 1 + 4 + 2 + 2 + 1);
        Check.work("list {a", 1 + 13);
        Check.work("{*}{}", 1);
        Check.work("nn", 1 + 3 + 14);
        // the inner command's error is the answer of both
        Check.work("list [nn]", 1 + 1 + 3 + 14 + 14);
        Check.work("set a 1; list $a", 10 + 1 + 1 + 5 + 2 + 1);
        Check.work("set a 1; list x$a", 10 + 1 + 1 + 2 + 5 + 3 + 2);
        Check.work("set a 1; list \"$a\"", 10 + 1 + 1 + 5 + 2 + 1);
        Check.work("list a\\nb", 1 + 5 + 4 + 5);
        // [list b]: 1, 5 + 2, 1; put in: 1
        Check.work("list [list b]", 1 + (1 + 5 + 2 + 1) + 1 + 5 + 2 + 1);
        // INDEX of two parts: its letters, and 1 for the $ in it
        Check.work("set a(x1) 5; set i 1; list $a(x$i)", (1 + 4 + 6 + 2 + 1) + 10 + (1 + 1 + 2 + 1 + 5 + 2 + 1));
        Check.work("list {*}{a b}", 1 + 5 + 2 + 2 + 3);
        Check.work("break", 1 + 6);
        Check.work("catch {error abc} e", 1 + 6 + 10 + 2 + (1 + 6 + 4 + 3) + 1);
    }

    private static void expressions() {
        Check.work("expr 1", 1 + 5 + 2 + 2 + 1);
        Check.work("expr 0x10", 1 + 5 + 5 + 5 + 2);
        Check.work("expr 1+2", 1 + 5 + 4 + 2 + 2 + 1 + 1);
        Check.work("expr true&&0", 1 + 5 + 8 + 5 + 2 + 1);
        Check.work("expr 0&&1", 1 + 5 + 5 + 2 + 1);
        Check.work("expr 1||0||0||0", 1 + 5 + 11 + 2 + 1);
        Check.work("expr 0&&1&&1||1&&1", 1 + 5 + 14 + 2 + 4 + 1);
        Check.work("expr -(1)", 1 + 5 + 5 + 2 + 1 + 2);
        Check.work("expr min(1,2)", 1 + 5 + 9 + 2 + 2 + 1 + 1);
        Check.work("set a 7; expr {$a}", 10 + 1 + 5 + 3 + 2 + 1);
        // in quotes the $ counts 1, two parts their letters, the operand 1 and its letters
        Check.work("set a 7; expr {\"$a\"}", 10 + 1 + 5 + 5 + 1 + 2 + 1);
        Check.work("set a 7; expr {\"x$a\"}", 10 + 1 + 5 + 6 + 1 + 2 + 3 + 2);
        Check.work("expr {[list b]}", 1 + 5 + 9 + (1 + 5 + 2 + 1) + 2 + 1);
        Check.work("expr {1 ? {ab} : 2}", 1 + 5 + 13 + 2 + 3 + 2);
        Check.work("expr {1/0}", 1 + 5 + 4 + 2 + 2 + 1 + 12);
        Check.work("expr {1/0", 1 + 13);
        Check.work("expr {(}", 1 + 5 + 2 + 14);
    }

    private static void values() {
        // append makes a text, and answers it
        Check.work("append a b c", 1 + 7 + 2 + 2 + 2 + 2 + 2);
        Check.work("append a b; append a", (1 + 7 + 2 + 2 + 1 + 1) + (1 + 7 + 2 + 1));
        Check.work("lappend a b {c d}", 1 + 8 + 2 + 2 + 4 + 7 + 7);
        Check.work("lindex {a {b c}} 1 0", 1 + 7 + 8 + 2 + 2 + 3 + 1);
        Check.work("lindex {a {b c}} 1", 1 + 7 + 8 + 2 + 3);
        Check.work("set a {a {b c}}; lset a 1 0 x", (1 + 4 + 2 + 8 + 7) + (1 + 5 + 2 + 2 + 2 + 2 + 3 + 3 + 7 + 7));
        Check.work("dict set a k v", 1 + 5 + 4 + 2 + 2 + 2 + 3 + 3);
        Check.work("dict set a k l v", 1 + 5 + 4 + 2 + 2 + 2 + 2 + 3 + 7 + 7);
        Check.work("dict get {a {b c}} a b", 1 + 5 + 4 + 8 + 2 + 2 + 3 + 1);
        Check.work("dict incr a k", 1 + 5 + 5 + 2 + 2 + 3 + 3);
        Check.work("dict lappend a k x y", 1 + 5 + 8 + 2 + 2 + 2 + 2 + 3 + 7 + 7);
        Check.work("dict lappend a k", 1 + 5 + 8 + 2 + 2 + 4 + 4);
        Check.work("incr a", 1 + 5 + 2 + 1);
        Check.work("subst {a[list b]}", 1 + 6 + 10 + (1 + 5 + 2 + 1) + 1 + 2 + 2);
    }

    private static void calls() {
        // the call: its words, 1 for each formal, the command in it, its answer
        Check.work("proc f {a b} {list $a}; f 1 2", (1 + 5 + 2 + 4 + 8) + (1 + 2 + 2 + 2) + 2 + (1 + 1 + 5 + 2 + 1) + 1);
        Check.work("apply {{} {}}", 1 + 6 + 6);
        Check.work("proc f a {}; f", (1 + 5 + 2 + 2 + 1) + (1 + 2 + 12));
        // a WATCH: 1 and the letters of "list a {} write"
        Check.work("trace add variable a write list; set a 1",
            (1 + 6 + 4 + 9 + 2 + 6 + 5) + (1 + 4 + 2 + 2) + (1 + 15) + (1 + 5 + 2 + 1 + 6 + 10) + 1);
        // a coroutine's command is a command as others
        Check.work("coroutine c list x", (1 + 10 + 2 + 5 + 2) + (1 + 5 + 2 + 1) + 1);
        Check.work("coroutine c yield xy; c z", (1 + 10 + 2 + 6 + 3) + (1 + 6 + 3) + 2 + (1 + 2 + 2) + 1 + 1);
        Check.work("proc unknown args {}; nn m", (1 + 5 + 8 + 5 + 1) + (1 + 3 + 2 + 1));
    }

    private static void limit() {
        Check check = new Check();
        check.ends(2, "while 1 {incr i}", "");
        Check.due("WORK", check.house.count(2), 30000);
        Check.due("USED", check.house.count(3), 30000);
        check.ends(0, "expr {$i > 2000}", "1");
        Check.due("WORK is of the latest", check.house.count(2) < 100, true);
        check = new Check();
        check.ends(2, "set a [string repeat x 40001]", "");
        check.ends(1, "set a", "no name: a");
        check.ends(2, "string repeat x 30000", "");
        check.ends(0, "string length [string repeat x 14000]", "14000");
        check = new Check();
        check.ends(0, "set x [string repeat a 9000]; list", "");
        check.ends(2, "puts [puts a]$x$x$x$x$x[puts b]", "");
        Check.due("a word is made when its last part is there", check.output(), "a\nb\n");
        check.ends(1, "puts $x$x$x$x$x[error c]", "c");
        // exactly at the limit: while E S spends 9, each round 2
        check = new Check();
        check.ends(2, "puts a; while 1 {}", "");
        check.ends(2, "coroutine c eval {while 1 {}}", "");
        Check.due("coroutines", check.house.count(7), 0);
        check.ends(1, "c", "no command: c");
    }

    /** A call that is too deep is that ahead of all that it does: it makes no list for args, counts no formal. */
    private static void deepCalls() {
        for (String last : new String[] {"p {*}$::l {*}$::l", "apply {args {}} {*}$::l {*}$::l"}) {
            Check check = new Check();
            check.ends(0, "catch {lrepeat 7000 {}} l; proc p args {}", "");
            check.ends(0, "proc q n {if {$n>0} {q [incr n -1]} else {" + last + "}}", "");
            check.ends(1, "eval {q 48}", "too deep");
            Check.due("WORK is left", check.house.count(2) < 30000, true);
            check.ends(2, "eval {q 47}", "");
        }
        // The list that args gets may have 40000 letters.
        Check check = new Check();
        check.ends(0, "catch {lrepeat 6666 {}} l; proc p args {info exists args}", "");
        check.ends(0, "catch {lrepeat 6667 {}} m", "0");
        check.ends(0, "p {*}$l {*}$m a", "1");
        check = new Check();
        check.ends(0, "catch {lrepeat 6666 {}} l; proc p args {info exists args}", "");
        check.ends(0, "catch {lrepeat 6667 {}} m", "0");
        check.ends(2, "p {*}$l {*}$m ab", "");
        check = new Check();
        check.ends(0, "proc p {a {b 2} args} {list $a $b $args}; list [p 1] [p 1 3] [p 1 3 4] [p 1 3 4 5]",
            "{1 2 {}} {1 3 {}} {1 3 4} {1 3 {4 5}}");
        check.ends(1, "p", "arguments: p");
        // Nothing is counted for formals where the call is too deep: 2 commands, 1 word of 2, twice the ERROR.
        Check.work("proc f {{a 1} {b 2} {c 3}} f; catch f", 1 + 5 + 2 + 18 + 2 + 1 + 6 + 2 + 98 * (1 + 2 + 3) + (1 + 2) + 99 * 8 + 1);
    }

    /** What \ stands for counts, not what it is told by. */
    private static void longRows() {
        String gap = "\\\\\n";
        Check check = new Check();
        check.ends(0, "catch {string repeat a 22300} v; set a 1", "1");
        check.ends(0, map(" ", "set r \\$::a(\\$::v" + gap + "@".repeat(178) + ")"), "0");
        check.ends(0, "proc f {} $b", "");
        check.ends(1, "f", "no array: ::a");
        Check.due("WORK of an INDEX with a GAP", check.house.count(2), 2 + 1 + 1 + 22301 + 13 + 13 + 1);
        check = new Check();
        check.ends(0, "catch {string repeat a 24000} v; set a 1", "1");
        check.ends(0, map("\\\\x41", "set r \\$::a(\\$::v" + "@".repeat(41) + ")"), "0");
        check.ends(0, "proc f {} $b", "");
        check.ends(1, "f", "no array: ::a");
        Check.due("WORK of an INDEX with \\x", check.house.count(2), 2 + 1 + 1 + 28100 + 13 + 13 + 1);
        check = new Check();
        check.ends(0, "catch {string repeat a 1410} v", "0");
        check.ends(0, map(" ", "string length \"" + "\\$::v".repeat(10) + gap + "@".repeat(260) + "\""), "0");
        check.ends(0, "proc f {} $b", "");
        check.ends(0, "f", "14101");
        check = new Check();
        check.ends(0, "catch {string repeat a 4000} v; set a 1", "1");
        check.ends(0, "proc f {} {set r $::a(" + "$::v".repeat(9) + "[incr ::n]$::v)}", "");
        check.ends(2, "f", "");
        check.ends(0, "set n", "1");
        check.ends(1, "set v x; f", "no array: ::a");
    }

    /** A script that makes b of a text, each @ in it being what is told, a hundred times. */
    private static String map(String what, String text) {
        return "catch {string map [list @ [string repeat \"" + what + "\" 100]] \"" + text.replace("\"", "\\\"") + "\"} b";
    }

    /** dict for writes no list of what it goes through. */
    private static void longPairs() {
        for (String pairs : new String[] {"k ", "l 1 k 2 k ", "k 1 k 2 k "}) {
            Check check = new Check();
            check.ends(0, map("\\}", pairs + "@".repeat(201)), "0");
            check.ends(0, "dict for {x y} $b {}; string length $x", "1");
            check = new Check();
            check.ends(0, map("\\}", pairs + "@".repeat(201)), "0");
            check.ends(2, "dict values $b", "");
            check.ends(2, "dict get $b", "");
        }
        Check.work("dict for {k v} {a 1 b 2 a 3} {}", 1 + 5 + 4 + 4 + 12 + 1);
    }

    private static void full() {
        Check check = new Check();
        check.ends(0, "proc f {} {}; namespace eval a {}; coroutine c yield; set v 1; list", "");
        int first = check.house.count(3);
        Check.due("counts", check.house.count(7) + " " + check.house.count(8) + " " + check.house.count(9), "1 1 1");
        check.ends(2, "while 1 {incr i}", "");
        Check.due("USED", check.house.count(3), 30000 + first);
        Check.due("FULL", check.house.count(4), 0);
        check.feed("abc");
        check.house.evaluate(0);
        check.ends(2, "puts x; while 1 {incr i}", "");
        Check.due("FULL", check.house.count(4), 1);
        Check.due("USED", check.house.count(3), 0);
        Check.due("WORK", check.house.count(2), 30000);
        Check.due("OUTPUT", check.output(), "x\n");
        Check.due("counts", check.house.count(7) + " " + check.house.count(8) + " " + check.house.count(9), "0 0 0");
        check.ends(1, "set v", "no name: v");
        check.ends(1, "f", "no command: f");
        check.ends(0, "info commands l*", "lappend list llength lindex lset lrange linsert lreplace lreverse lrepeat lassign"
            + " lsearch lsort lmap");
    }

    private static void depth() {
        Check.well("proc f n {if {$n > 0} {f [incr n -1]} else {list done}}; f 48", "done");
        Check.well("proc f n {incr ::m; f 0}; list [catch {f 0} e] $e $m", "1 {too deep} 98");
        Check.well("proc f n {incr ::m; eval {f 0}}; list [catch {f 0} e] $e $m", "1 {too deep} 49");
        Check.well("proc f n {incr ::m; expr {[f 0]}}; list [catch {f 0} e] $e $m", "1 {too deep} 98");
        Check.well("proc f n {incr ::m; coroutine c$::m f 0}; list [catch {f 0} e] $e $m", "1 {too deep} 21");
        Check.well("proc f {} {incr ::m; namespace eval x f}; list [catch f e] $e $m", "1 {too deep} 49");
        Check.well("proc f {} {incr ::m; if {$::m == 97} {catch {list a}; return [catch {catch f}]}; f}; f", "1");
    }
}
