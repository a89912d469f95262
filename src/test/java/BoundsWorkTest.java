/** The boundary cases of part I: WORK and the LIMIT to the letter, texts of 40000 letters, FULL, depth. */
public final class BoundsWorkTest {
    private static final int LIMIT = 30000;

    public static void main(String[] args) {
        ends();
        begun();
        words();
        answers();
        operands();
        operators();
        watches();
        formals();
        putIn();
        putTogether();
        lookedAt();
        made();
        commands();
        undone();
        longTexts();
        full();
        fullAgain();
        deep();
        notDeeper();
        deepEffects();
        deepCoroutines();
        Check.end();
    }

    /**
     * A house that has evaluated a script with so much WORK left for it: "if 0 $p" with p of n letters takes n + 10, with
     * m letters in { } m + 9. What is spent ahead is halved so that the house isn't FULL behind it.
     */
    private static Check left(int left, String setup, String script) {
        Check check = new Check();
        Check.due(setup, check.evaluate(setup), 0);
        int rest = LIMIT - 29 - left;
        check.evaluate("catch {string repeat a " + rest / 2 + "} p");
        check.feed("if 0 $p;if 0 $p;if 0 {" + "b".repeat(rest % 2) + "};" + script);
        return check;
    }

    private static int evaluate(Check check, String script, int left) {
        int rest = LIMIT - 29 - left;
        return check.house.evaluate(("if 0 $p;if 0 $p;if 0 {" + "b".repeat(rest % 2) + "};" + script).length());
    }

    /** With all the WORK that it needs a script ends so, being at the LIMIT; with 1 less it ends by the LIMIT. */
    private static void within(String setup, String script, int work, int ends, String result) {
        Check check = left(work, setup, script);
        Check.due(script + " with " + work, evaluate(check, script, work) + " " + check.result(), ends + " " + result);
        check.counts(script, 2, LIMIT);
        check = left(work - 1, setup, script);
        Check.due(script + " with " + (work - 1), evaluate(check, script, work - 1) + " " + check.result(), "2 ");
        check.counts(script, 2, LIMIT);
    }

    /** For each WORK that may be left, what another script tells then (without one: the OUTPUT); from some WORK on, another. */
    private static void steps(String setup, String script, int work, String tell, Object... steps) {
        for (int left = 0; left <= work; left++) {
            Check check = left(left, setup, script);
            String about = script + " with " + left + " left, " + tell;
            Check.due(about, evaluate(check, script, left), left == work ? 0 : 2);
            check.counts(about, 2, LIMIT);
            if (tell != null) {
                check.evaluate(tell);
            }
            String due = "";
            for (int i = 0; i < steps.length; i += 2) {
                due = (int) steps[i] <= left ? (String) steps[i + 1] : due;
            }
            Check.due(about, tell == null ? check.output() : check.result(), due);
        }
    }

    private static void ends() {
        Check.sentence("It ENDS 0 well, 1 with an ERROR, 2 by the LIMIT. A script that ends with code 2 ends well; with another"
            + " code C but 0 and 1 with the ERROR \"code C\".");
        Check.well("list a", "a");
        Check.well("return -level 0 -code 0 a", "a");
        Check.error("return -level 0 -code 1 a", "a");
        Check.well("return -level 0 -code 2 a", "a");
        Check.error("return -level 0 -code 3 a", "code 3");
        Check.error("return -level 0 -code 4 a", "code 4");
        Check.error("return -level 0 -code 5 a", "code 5");
        Check.error("return -level 0 -code -1 a", "code -1");
        Check.error("return -level 0 -code 2147483647", "code 2147483647");
        Check.error("return -level 0 -code -2147483648", "code -2147483648");
        Check.well("return -code error a", "a");
        Check.well("return -level 9223372036854775807 a", "a");
        Check.limit("while 1 {}");
        Check.error("error {}", "");
        Check.sentence("It ends with the first that ends with a code that isn't 0.");
        new Check().writes(0, "puts a; return -level 0 -code 0 b; puts c", "a\nc\n");
        new Check().writes(1, "puts a; error b; puts c", "a\n");
        new Check().writes(0, "puts a; return b; puts c", "a\n");
        new Check().writes(1, "puts a; break; puts c", "a\n");
        new Check().writes(1, "puts a\nreturn -level 0 -code -1\nputs c", "a\n");
        Check.sentence("The answer of its last command (no letters, if it has none).");
        Check.well("", "");
        Check.well(" \t\n;;\n", "");
        Check.well("# a", "");
        Check.well("list a\n# b\n;", "a");
        Check.well("list a; list", "");
        Check.well("list a; {*}{}", "");
    }

    private static void begun() {
        Check.sentence("WORK grows by 1 with each command that is begun (also one that can't be cut), ahead of making its words.");
        steps("", "puts [puts a]", 16, null, 9, "a\n", 16, "a\n\n");
        within("", "list {", 1 + 13, 1, "missing brace");
        within("", "{*}{}", 1, 0, "");
        within("set e {}", "{*}$e", 1 + 1, 0, "");
        within("", "{*}[list]", 1 + (1 + 5) + 1, 0, "");
        within("", "", 0, 0, "");
    }

    private static void words() {
        Check.sentence("By 1 and its letters with each of its words, when all are made, ahead of all that it does.");
        steps("", "puts {}", 1 + 5 + 1, null, 7, "\n");
        steps("", "puts {ab c}", 1 + 5 + 5, null, 11, "ab c\n");
        steps("", "{*}{puts ab}", 1 + 5 + 3, null, 9, "ab\n");
        steps("set v x", "puts $v[puts a]", 19, null, 10, "a\n", 19, "a\nx\n");
        within("", "nn", 1 + 3 + 14, 1, "no command: nn");
    }

    private static void answers() {
        Check.sentence("By the letters of its answer, whatever its code, when it has ended (also by its cutting or its words).");
        steps("", "set a 12", 1 + 4 + 2 + 3 + 2, "info exists a", 0, "0", 10, "1");
        within("", "list ab", 1 + 5 + 3 + 2, 0, "ab");
        within("", "list {a b}", 1 + 5 + 4 + 5, 0, "{a b}");
        within("", "error abc", 1 + 6 + 4 + 3, 1, "abc");
        within("", "return -level 0 -code 7 ab", 1 + 7 + 7 + 2 + 6 + 2 + 3 + 2, 1, "code 7");
        within("", "return ab", 1 + 7 + 3 + 2, 0, "ab");
        within("", "break", 1 + 6, 1, "code 3");
        within("", "list [error abc]", 1 + 14 + 3, 1, "abc");
        within("", "list [list {]", 1 + 13, 1, "missing brace");
        within("", "eval {list {}", 1 + 13, 1, "missing brace");
        within("", "eval {list \"}", 1 + 5 + 7 + 1 + 13 + 13, 1, "missing quote");
        within("", "list $n", 1 + 10, 1, "no name: n");
        within("proc f {} break", "f", 1 + 2 + (1 + 6) + 6, 1, "code 3");
    }

    private static void operands() {
        Check.sentence("By 1 and its letters with each operand of an expression that is taken (an INTEGER, a word as it is told).");
        steps("", "expr {[puts a] eq [puts b]}", 47, null, 35, "a\n", 44, "a\nb\n");
        steps("", "expr {12345 eq [puts a]}", 41, null, 38, "a\n");
        steps("", "expr {0x000 eq [puts a]}", 41, null, 38, "a\n");
        steps("", "expr {false eq [puts a]}", 41, null, 38, "a\n");
        steps("", "expr {{abc} eq [puts a]}", 39, null, 36, "a\n");
        steps("", "expr {\"abc\" eq [puts a]}", 39, null, 36, "a\n");
        steps("", "if {[puts a] eq {}} {puts b}", 45, null, 34, "a\n", 45, "a\nb\n");
        within("", "expr {1 ? 22 : 333}", 1 + 5 + 13 + 2 + 3 + 2, 0, "22");
        within("", "expr {0 ? 22 : 333}", 1 + 5 + 13 + 2 + 4 + 3, 0, "333");
        within("", "expr {1 || 22222}", 1 + 5 + 11 + 2 + 1, 0, "1");
        within("", "expr {0 && 22222}", 1 + 5 + 11 + 2 + 1, 0, "0");
        within("", "expr {0 || 22222}", 1 + 5 + 11 + 2 + 6 + 1, 0, "1");
        within("", "expr {1 && 22222}", 1 + 5 + 11 + 2 + 6 + 1, 0, "1");
        within("", "expr {(0007)}", 1 + 5 + 7 + 5 + 1, 0, "7");
        within("set a 0x10", "expr {$a}", 1 + 5 + 3 + 5 + 2, 0, "16");
    }

    private static void operators() {
        Check.sentence("By 1 with each operator (but && || ? :) and each function of an expression that is worked, ahead of that.");
        within("", "expr 1/0", 1 + 5 + 4 + 4 + 1 + 12, 1, "divided by 0");
        within("", "expr -1", 1 + 5 + 3 + 2 + 1 + 2, 0, "-1");
        within("", "expr !1", 1 + 5 + 3 + 2 + 1 + 1, 0, "0");
        within("", "expr ~1", 1 + 5 + 3 + 2 + 1 + 2, 0, "-2");
        within("", "expr +1", 1 + 5 + 3 + 2 + 1 + 1, 0, "1");
        for (String operator : "+ - * / % ** << >> < > <= >= == != & ^ |".split(" ")) {
            String script = "catch {expr 5" + operator + "1}";
            within("", script, 1 + 6 + (script.length() - 7) + (1 + 5 + operator.length() + 3 + 2 + 2 + 1 + value(operator).length()) + 1,
                0, "0");
        }
        for (String operator : "eq ne in ni".split(" ")) {
            within("", "expr {1 " + operator + " 2}", 1 + 5 + 7 + 2 + 2 + 1 + 1, 0, operator.startsWith("n") ? "1" : "0");
        }
        within("", "expr abs(1)", 1 + 5 + 7 + 2 + 1 + 1, 0, "1");
        within("", "expr min(1,2,3)", 1 + 5 + 11 + 6 + 1 + 1, 0, "1");
        within("", "expr max(1)", 1 + 5 + 7 + 2 + 1 + 1, 0, "1");
        within("", "expr 0&&1+1", 1 + 5 + 7 + 2 + 1, 0, "0");
    }

    private static String value(String operator) {
        return operator.equals("<<") ? "10" : "1";
    }

    private static void watches() {
        Check.sentence("By 1 and the letters of its script with each WATCH that is DONE.");
        String watch = "trace add variable a {read write unset} {puts w;#}";
        steps(watch, "set a 1", 38, "info exists a", 0, "0", 9, "1");
        steps(watch, "set a 1", 38, null, 37, "w\n");
        steps("set a 5;" + watch, "set a", 35, null, 34, "w\n");
        steps("set a 5;" + watch, "unset a", 37, null, 37, "w\n");
        steps("set a 5;" + watch, "unset a", 37, "info exists a", 0, "1", 9, "0");
        within("trace add variable a write {list;#}", "set a 1", 9 + (1 + 17) + (1 + 5) + 1, 0, "1");
        within("trace add variable a write {;#}; trace add variable a write {#}", "set a 1", 9 + (1 + 13) + (1 + 12) + 1, 0, "1");
    }

    private static void formals() {
        Check.sentence("By 1 for each formal of a procedure or apply that is called, ahead of writing its names.");
        steps("proc f {a b} {puts x}", "f 1 2", 17, null, 17, "x\n");
        steps("proc f {{a 1} {b 2} args} {puts x}", "f", 14, null, 14, "x\n");
        steps("proc f {} {puts x}", "f", 11, null, 11, "x\n");
        steps("", "apply {{a b} {puts x}} 1 2", 36, null, 36, "x\n");
        within("proc f {a b} {}", "f 1 2", 9, 0, "");
    }

    private static void putIn() {
        Check.sentence("By 1 with each $ and each [ ] that is put in among letters (in a word, an INDEX, subst, \" \" of an expression;"
            + " not by an operand that is one), when its value is there.");
        String watch = "set a 5; trace add variable a read {puts r;#}";
        steps(watch, "list $a", 37, null, 28, "r\n");
        within("", "list [list]", 1 + (1 + 5) + 1 + 5 + 1 + 2, 0, "{}");
        within("set a 5", "list \"$a\"", 1 + 1 + 5 + 2 + 1, 0, "5");
        within("set a 5", "list ${a}", 1 + 1 + 5 + 2 + 1, 0, "5");
        within("set a 5; set b(5) 6", "list $b($a)", 1 + 1 + 1 + 5 + 2 + 1, 0, "6");
        within("set a 5", "subst $a", 1 + 1 + 6 + 2 + 1, 0, "5");
        within("set a 5", "subst {$a}", 1 + 6 + 3 + 1 + 1, 0, "5");
        within("set a 5", "expr {$a}", 1 + 5 + 3 + 2 + 1, 0, "5");
        within("set a 5", "expr {\"$a\"}", 1 + 5 + 5 + 1 + 2 + 1, 0, "5");
        within("set b(5) 6; set a 5", "expr {$b($a)}", 1 + 5 + 7 + 1 + 2 + 1, 0, "6");
    }

    private static void putTogether() {
        Check.sentence("By the letters of each text that is put together of more than one part (a $, a [ ], a row of other letters:"
            + " of a word, an INDEX, an operand, of what subst answers), when its last part is there.");
        steps("", "puts x[puts a]y", 20, null, 9, "a\n", 20, "a\nxy\n");
        steps("set a(x1) 5; set i 1; trace add variable a read {puts r;#}", "list $a(x$i)", 40, null, 31, "r\n");
        steps("", "subst {a[puts b]}", 28, null, 25, "b\n");
        steps("", "expr {\"a[puts b]\"}", 31, null, 26, "b\n");
        within("", "list a\\x41\\nb\\\n", 1 + 5 + 5 + 6, 0, "{aA\nb}");
        within("", "list \"a\\\nb\"", 1 + 5 + 4 + 5, 0, "{a b}");
        within("", "subst {a\\x41b}", 1 + 6 + 7 + 3, 0, "aAb");
        within("set a {}", "list $a$a", 1 + 2 + 0 + 5 + 1 + 2, 0, "{}");
        within("set a xy", "list $a$a", 1 + 2 + 4 + 5 + 5 + 4, 0, "xyxy");
        within("set a xy", "list {*}$a$a", 1 + 2 + 4 + 5 + 5 + 4, 0, "xyxy");
        within("set a xy", "subst {$a$a}", 1 + 6 + 5 + 2 + 4 + 4, 0, "xyxy");
        within("set a xy", "expr {\"$a$a\"}", 1 + 5 + 7 + 2 + 4 + 5 + 4, 0, "xyxy");
    }

    private static void lookedAt() {
        Check.sentence("By the letters of each text within a list, DICTIONARY that is looked at as one itself (lindex, lset; dict get,"
            + " exists, set, unset), ahead of that.");
        within("", "lindex {a {b c}} 1", 1 + 7 + 8 + 2 + 3, 0, "b c");
        within("", "lindex {a {b c}} 1 0", 1 + 7 + 8 + 2 + 2 + 3 + 1, 0, "b");
        within("", "lindex {a {b {c d}}} 1 1 0", 1 + 7 + 12 + 2 + 2 + 2 + 7 + 3 + 1, 0, "c");
        within("", "lindex {a \\{b} 1 0", 1 + 7 + 6 + 2 + 2 + 2 + 13, 1, "missing brace");
        within("", "dict get {a {b c}} a", 1 + 5 + 4 + 8 + 2 + 3, 0, "b c");
        within("", "dict get {a {b c}} a b", 1 + 5 + 4 + 8 + 2 + 2 + 3 + 1, 0, "c");
        within("", "dict get {a bcd} a b", 1 + 5 + 4 + 6 + 2 + 2 + 3 + 13, 1, "no dictionary");
        within("", "dict exists {a {b c}} a b", 1 + 5 + 7 + 8 + 2 + 2 + 3 + 1, 0, "1");
        within("", "dict exists {a {b c}} x b", 1 + 5 + 7 + 8 + 2 + 2 + 1, 0, "0");
    }

    private static void made() {
        Check.sentence("By the letters of each text that append, lappend, lset, dict incr, dict lappend, dict set, dict unset make"
            + " to be written, of those on the way too, when it is made.");
        steps("", "append a b c", 18, "info exists a", 0, "0", 16, "1");
        steps("set a xyz", "append a b", 1 + 7 + 2 + 2 + 4 + 4, "set a", 0, "xyz", 16, "xyzb");
        within("set a xyz", "append a", 1 + 7 + 2 + 3, 0, "xyz");
        steps("", "lappend a b {c d}", 31, "info exists a", 0, "0", 24, "1");
        within("set a xyz", "lappend a", 1 + 8 + 2 + 3, 0, "xyz");
        steps("set a {a {b c}}", "lset a 1 0 x", 34, "set a", 0, "a {b c}", 27, "a {x c}");
        within("set a q", "lset a xy", 1 + 5 + 2 + 3 + 2, 0, "xy");
        steps("", "dict set a k l v", 35, "info exists a", 0, "0", 28, "1");
        steps("set a {k {l w}}", "dict set a k l v", 38, "set a", 0, "k {l w}", 31, "k {l v}");
        steps("set a {k {l w m x}}", "dict unset a k l", 42, "set a", 0, "k {l w m x}", 35, "k {m x}");
        steps("", "dict incr a k", 21, "info exists a", 0, "0", 18, "1");
        steps("set a {k 99}", "dict incr a k 901", 1 + 5 + 5 + 2 + 2 + 4 + 6 + 6, "set a", 0, "k 99", 25, "k 1000");
        steps("", "dict lappend a k x y", 39, "info exists a", 0, "0", 32, "1");
        steps("", "incr a", 9, "info exists a", 0, "0", 8, "1");
    }

    private static void commands() {
        Check.sentence("A command's effects are done ahead of counting its answer.");
        steps("", "lassign {1 2 3} a b", 1 + 8 + 6 + 2 + 2 + 1, "list [info exists a] [info exists b]", 0, "0 0", 19, "1 1");
        steps("", "foreach x {1 2} {puts $x}", 41, null, 32, "1\n", 41, "1\n2\n");
        steps("", "catch {puts a} r", 25, "info exists r", 0, "0", 24, "1");
        steps("", "catch {error abc} r", 1 + 6 + 10 + 2 + (1 + 6 + 4 + 3) + 1, "info exists r", 0, "0", 33, "1");
        steps("", "coroutine c yield xy", 1 + 10 + 2 + 6 + 3 + (1 + 6 + 3) + 2, "info commands c", 32, "c");
        within("coroutine c yield", "c xyz", (1 + 2 + 4) + 3 + 3, 0, "xyz");
        steps("", "try {puts a} finally {puts b}", 1 + 4 + 7 + 8 + 7 + 8 + 8, null, 35, "a\n", 43, "a\nb\n");
    }

    private static void undone() {
        Check.sentence("The evaluation ends at once by the LIMIT, WORK being 30000: nothing is undone, nothing more is done; all"
            + " coroutines that are running are no more.");
        Check check = new Check();
        check.ends(0, "coroutine a yield; coroutine a2 eval {yield; coroutine a3 eval {while 1 {}}}", "");
        check.writes(2, "set v 1; puts x; coroutine b eval {coroutine c eval {a2}}; puts y; set w 1", "x\n");
        check.counts("WORK", 2, LIMIT);
        check.counts("the coroutine that had stopped is there still", 7, 1);
        check.ends(0, "list [info exists v] [info exists w] [info commands {[abc]}] [info coroutine] [info level]", "1 0 a {} 0");
        check = new Check();
        check.writes(2, "catch {try {while 1 {}} finally {puts f}}; puts y", "");
        check.ends(1, "yield", "no coroutine");
        check = new Check();
        check.ends(0, "set n 1; trace add variable a write {incr ::k; if {$::n} {while 1 {}};#}", "");
        check.ends(2, "namespace eval r {proc p {} {set ::a 1}; p}", "");
        check.ends(0, "set n 0; set a 2; list $a $k", "2 2");
        check = new Check();
        check.ends(0, "proc n i {if {$i == 0} {if {$::stop} {while 1 {}}; return end}; coroutine c$i n [incr i -1]}; set stop 1", "1");
        check.ends(2, "proc d {} {eval {eval {n 19}}}; d", "");
        check.ends(0, "set stop 0; proc f a {list [info level] [info level 1]}; list [n 20] [f x] [eval {f x}]", "end {1 {f x}} {1 {f x}}");
        check = new Check();
        check.ends(2, "namespace eval r {proc p {} {while 1 {}}; p}", "");
        check.ends(0, "namespace delete r; list [namespace exists r] [namespace current]", "0 ::");
        check = new Check();
        check.ends(2, "coroutine c namespace eval r {while 1 {}}", "");
        check.ends(0, "namespace delete r; info commands c", "");
    }

    private static void longTexts() {
        Check.sentence("So it does where a text with more than 40000 letters would be made (.. what is to be written to a name, ahead"
            + " of that ..).");
        for (String call : new String[] {"p", "apply {args {info exists args}}"}) {
            for (int more = 0; more <= 1; more++) {
                Check check = new Check();
                check.ends(0, "catch {lrepeat 6666 {}} l; proc p args {info exists args}", "");
                check.ends(0, "catch {lrepeat 6667 {}} m", "0");
                check.ends(more == 0 ? 0 : 2, call + " {*}$l {*}$m a" + "b".repeat(more), more == 0 ? "1" : "");
                if (more != 0) {
                    check.counts("WORK", 2, LIMIT);
                }
            }
        }
        // 13332 times {} and a BLANK, then these: 39996 letters and more, the last ones written with a \\ or in { }.
        String[][] last = {{"a \\{", "aa \\{"}, {"{  }", "{   }"}};
        for (int i = 0; i < last.length; i++) {
            for (int more = 0; more <= 1; more++) {
                Check check = new Check();
                check.ends(0, "catch {lrepeat 6666 {}} l; proc p args {info exists args}", "");
                check.ends(more == 0 ? 0 : 2, "p {*}$l {*}$l " + last[i][more], more == 0 ? "1" : "");
            }
        }
        Check.sentence("So it does where a text with more than 40000 letters would be made (a word ..; an answer).");
        Check.limit("string repeat x 40001");
        Check.limit("string repeat xy 9223372036854775807");
        Check.limit("lrepeat 9223372036854775807 {}");
        Check.limit("string repeat x 30000");
        Check check = new Check();
        check.ends(0, "catch {string repeat a 29000} v", "0");
        check.writes(2, "puts [puts 1]$v$v[puts 2]", "1\n2\n");
        Check.sentence("(.. an INDEX, when its last part is there ..)");
        check = new Check();
        check.ends(0, "catch {string repeat a 29000} v", "0");
        check.writes(2, "puts $a([puts 1]$v$v[puts 2])", "1\n2\n");
    }

    private static void full() {
        Check.sentence("USED is all WORK since the house was new; when it is above 60000 at an evaluation's end, the house is as new.");
        Check check = new Check();
        check.ends(2, "proc f {} {}; namespace eval a {}; coroutine c yield; set v 1; while 1 {}", "");
        check.counts("USED", 3, 30000);
        check.writes(2, "puts x; while 1 {}", "x\n");
        check.counts("USED", 3, 60000);
        check.counts("not FULL at 60000", 4, 0);
        check.ends(0, "", "");
        check.counts("USED", 3, 60000);
        check.counts("not FULL at 60000", 4, 0);
        for (int what = 7; what <= 9; what++) {
            check.counts("at 60000", what, 1);
        }
        check.feed("{*}{}");
        Check.due("evaluate(21)", check.house.evaluate(21), -1);
        check.counts("not FULL", 4, 0);
        Check.due("complete(5)", check.house.complete(5), 1);
        check.counts("not FULL", 4, 0);
        Check.due("evaluate(5)", check.house.evaluate(5), 0);
        check.counts("FULL at 60001", 4, 1);
        check.counts("USED", 3, 0);
        check.counts("WORK", 2, 1);
        check.counts("commands", 6, 1);
        for (int what = 7; what <= 9; what++) {
            check.counts("as new", what, 0);
        }
        check.ends(0, "list [info exists v] [namespace exists a] [info commands {[cf]}]", "0 0 {}");
    }

    private static void fullAgain() {
        Check.sentence("(FULL; USED 0; but RESULT, OUTPUT, the tape, and what count() tells of the evaluation and of FULL).");
        Check check = new Check();
        for (int times = 1; times <= 3; times++) {
            check.ends(2, "while 1 {}", "");
            check.ends(2, "while 1 {}", "");
            check.ends(0, "rename set mine; proc set args {list q}; puts [mine v 5]; list $v [set v]", "5 q");
            check.counts("FULL", 4, times);
            check.counts("USED", 3, 0);
            check.counts("OUTPUT", 0, 2);
            check.counts("RESULT", 1, 3);
            check.counts("commands", 6, 7);
            Check.due("result", check.result(), "5 q");
            Check.due("output", check.output(), "5\n");
        }
        check.ends(0, "set v 7", "7");
        check.counts("USED", 3, 10);
        check.ends(0, "unset v; info procs", "");
        check.ends(1, "mine", "no command: mine");
    }

    /** A house where d calls itself n times; what it comes to stands in a script at depth n + 1. */
    private static Check dive(String setup, int n, String command) {
        Check check = new Check();
        check.ends(0, "proc d {} {incr ::n -1; {*}[lindex $::w [expr {$::n > 0}]]}; set n " + n + ";" + setup + "; set w [list {"
            + command + "} d]; list", "");
        return check;
    }

    /** A command at depth 99 ends so; at depth 100, where its script would be at 101, it is too deep. */
    private static void deepest(String setup, String command, String result) {
        dive(setup, 98, command).ends(0, "d", result);
        dive(setup, 99, command).ends(1, "d", "too deep");
    }

    private static void deep() {
        Check.sentence("The command that would begin one at depth 101 ends with the ERROR \"too deep\" instead.");
        deepest("", "eval {list a}", "a");
        deepest("", "eval list a", "a");
        deepest("", "if 1 {list a}", "a");
        deepest("", "if 0 {} elseif 1 {list a}", "a");
        deepest("", "if 0 {} {list a}", "a");
        deepest("", "while 1 break", "");
        deepest("", "for {} 0 {} {}", "");
        deepest("", "foreach x 1 {}", "");
        deepest("", "lmap x 1 {list a}", "a");
        deepest("", "dict for {k v} {a 1} {}", "");
        deepest("", "switch a {a {list b}}", "b");
        deepest("", "catch {list a}", "0");
        deepest("", "try {list a} finally {list b}", "a");
        deepest("", "uplevel 0 {list a}", "a");
        deepest("", "uplevel #0 {list a}", "a");
        deepest("", "namespace eval r {list a}", "a");
        deepest("", "apply {{} {list a}}", "a");
        deepest("proc f {} {list a}", "f", "a");
        deepest("proc unknown args {list u {*}$args}", "nn", "u nn");
        deepest("set a 1; trace add variable a read {list;#}", "set ::a", "1");
        deepest("trace add variable a write {list;#}", "set ::a 1", "1");
        deepest("trace add variable a(x) write {list;#}", "incr ::a(x)", "1");
    }

    private static void notDeeper() {
        Check.sentence("What stands in [ ] is of the script around it.");
        String[][] commands = {{"list [list a]", "{[list} {a]}"}, {"expr {[list a]}", "a"}, {"subst {[list a][list b]}", "ab"},
            {"if 0 {list a}", ""}, {"while 0 {}", ""}, {"foreach x {} {}", ""}, {"lmap x {} {}", ""}, {"dict for {k v} {} {}", ""},
            {"switch a {b c}", ""}, {"if {[list 0]} {}", ""}};
        for (String[] command : commands) {
            dive("", 99, command[0]).ends(0, "d", command[1]);
        }
    }

    private static void deepEffects() {
        Check.sentence("(of a call, namespace eval: ahead of all that it does)");
        Check check = dive("", 99, "namespace eval r {}");
        check.ends(1, "d", "too deep");
        check.ends(0, "namespace exists r", "0");
        check.counts("no room came", 8, 0);
        check = dive("", 99, "foreach ::x {1 2} {}");
        check.ends(1, "d", "too deep");
        check.ends(0, "set x", "1");
        Check.sentence("Depth is as said: else the act ends with the ERROR \"too deep\" (of unset that is nothing).");
        check = dive("trace add variable a write {incr ::k;#}", 99, "set ::a 1");
        check.ends(1, "d", "too deep");
        check.ends(0, "list $a [info exists k]", "1 0");
        check = dive("set a 1; trace add variable a unset {incr ::k;#}", 99, "unset ::a");
        check.ends(0, "d", "");
        check.ends(0, "list [info exists a] [info exists k]", "0 0");
        check = dive("set a 1; trace add variable a unset {incr ::k;#}", 98, "unset ::a");
        check.ends(0, "d", "");
        check.ends(0, "list [info exists a] [info exists k]", "0 1");
    }

    private static void deepCoroutines() {
        Check.sentence("In a coroutine they count from 1 anew.");
        String e = "proc e {n s} {set ::n $n; set ::w [list $s d]; d}";
        dive(e, 99, "coroutine c list a").ends(0, "d", "a");
        dive(e, 99, "coroutine c eval {list a}").ends(0, "d", "a");
        dive(e, 99, "coroutine c e 97 {eval {list a}}").ends(0, "d", "a");
        dive(e, 99, "coroutine c e 98 {eval {list a}}").ends(1, "d", "too deep");
        dive("coroutine c eval {yield; eval {eval {list x}}}", 99, "c").ends(0, "d", "x");
        dive("", 98, "eval {list a}").ends(0, "coroutine c d", "a");
        dive("", 99, "eval {list a}").ends(1, "coroutine c d", "too deep");
        dive("", 98, "coroutine c yield").ends(0, "d; eval {eval {c 5}}", "5");
    }
}
