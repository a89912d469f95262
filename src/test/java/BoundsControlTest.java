/** The boundary cases of part VI and of part VII's CONTROL: codes, calls, rooms, coroutines; and what part VIII tells of them. */
public final class BoundsControlTest {
    public static void main(String[] args) {
        codesOfCalls();
        left();
        codesOfOthers();
        ifs();
        whiles();
        fors();
        switches();
        switchLists();
        catches();
        tries();
        returns();
        returnLevels();
        formals();
        calls();
        applies();
        renames();
        rooms();
        deletes();
        tails();
        coroutines();
        coroutineEnds();
        running();
        twentyRunning();
        yields();
        forgotten();
        Check.end();
    }

    /** How a script ends: its code and answer, as catch tells them. */
    private static void caught(String setup, String script, String due) {
        Check.well(setup + "list [catch {" + script + "} r] $r", due);
    }

    private static void codesOfCalls() {
        Check.sentence("A procedure's or apply's body that ends with 2: ..; one that ends with 3 or 4: the call ends with the ERROR \"code 3\", \"code 4\"."
            + " Else a command that evaluates a script ends with its code and answer.");
        String[][] due = {{"list a", "0 a"}, {"error a", "1 a"}, {"return a", "0 a"}, {"break", "1 {code 3}"}, {"continue", "1 {code 4}"},
            {"return -level 0 -code 2 a", "0 a"}, {"return -level 0 -code 3 a", "1 {code 3}"}, {"return -level 0 -code 5 a", "5 a"},
            {"return -level 0 -code -1 a", "-1 a"}, {"return -code 5 a", "5 a"}, {"return -code 3 a", "3 a"}, {"return -code 4 a", "4 a"},
            {"return -code 1 a", "1 a"}, {"return -code 0 a", "0 a"}, {"return -code 2 a", "2 a"}, {"list", "0 {}"}, {"return", "0 {}"}};
        for (String[] pair : due) {
            caught("proc f {} {" + pair[0] + "};", "f", pair[1]);
            caught("", "apply {{} {" + pair[0] + "}}", pair[1]);
        }
        caught("proc f {} {};", "f", "0 {}");
    }

    private static void left() {
        Check.sentence("LEFT is 1 less; if that is 0 the call ends with THEN (with 2, LEFT 1 and THEN 0, if THEN is 2), else with 2.");
        String calls = "proc f {} {R; list f}; proc g {} {f; list g}; proc h {} {g; list h};";
        String[][] due = {{"return x", "h"}, {"return -level 1 x", "h"}, {"return -level 2 x", "h"}, {"return -level 3 x", "x"}, {"return -level 0 x", "h"},
            {"return -code return x", "h"}, {"return -level 2 -code return x", "x"}};
        for (String[] pair : due) {
            Check.well(calls.replace("R", pair[0]) + "h", pair[1]);
        }
        caught(calls.replace("R", "return -level 3 x"), "h", "0 x");
        caught(calls.replace("R", "return -level 4 x"), "h", "2 x");
        caught(calls.replace("R", "return -level 3 -code 7 x"), "h", "7 x");
        caught(calls.replace("R", "return -level 4 -code 7 x"), "h", "2 x");
        caught(calls.replace("R", "return -level 3 -code error x"), "h", "1 x");
        caught(calls.replace("R", "return -level 3 -code return x"), "h", "2 x");
        caught(calls.replace("R", "return -level 2 -code break x"), "h", "1 {code 3}");
        caught(calls.replace("R", "return -level 3 -code break x"), "h", "3 x");
        caught(calls.replace("R", "return -level 9223372036854775807 x"), "h", "2 x");
        Check.well("proc f {} {return -code return x}; proc g {} {f; list y}; proc h {} {list [g] z}; h", "x z");
        Check.well(calls.replace("R", "return -level 4 x") + "catch h; list done", "done");
    }

    private static void codesOfOthers() {
        Check.sentence("Else a command that evaluates a script ends with its code and answer, unless it is told otherwise.");
        for (String around : new String[] {"eval {R}", "if 1 {R}", "switch a {a {R}}", "uplevel 0 {R}", "namespace eval n {R}", "try {R} finally {}",
            "list [R]", "subst {[R]}", "expr {[R]}", "for {R} 1 {} {}", "try {} finally {R}"}) {
            caught("", around.replace("R", "return x"), "2 x");
            caught("", around.replace("R", "return -level 0 -code 9 x"), "9 x");
            caught("", around.replace("R", "return -level 0 -code 3 x"), "3 x");
            caught("", around.replace("R", "return -level 0 -code 4 x"), "4 x");
            caught("", around.replace("R", "error x"), "1 x");
        }
        for (String loop : new String[] {"while 1 {R}", "for {} 1 {} {R}", "foreach a 1 {R}", "lmap a 1 {R}", "dict for {a b} {1 2} {R}"}) {
            caught("", loop.replace("R", "return x"), "2 x");
            caught("", loop.replace("R", "return -level 0 -code 9 x"), "9 x");
            caught("", loop.replace("R", "error x"), "1 x");
            caught("", loop.replace("R", "return -level 0 -code 3 x"), "0 {}");
        }
        Check.well("proc f {} {namespace eval n {return x}; list y}; f", "x");
        Check.well("proc f {} {uplevel 1 {return x}; list y}; f", "x");
        Check.well("proc f {} {eval {if 1 {foreach a 1 {return x}}}; list y}; f", "x");
    }

    private static void ifs() {
        Check.sentence("if E [then] S [elseif E [then] S] .. [[else] S]: the first S whose E is a truth; its answer.");
        Check.well("if 1 {list a}", "a");
        Check.well("if 0 {list a}", "");
        Check.well("if 1 then {list a}", "a");
        Check.well("if 0 {list a} {list b}", "b");
        Check.well("if 0 {list a} else {list b}", "b");
        Check.well("if 0 {list a} elseif 0 {list b} elseif 1 {list c} elseif {[error x]} {list d}", "c");
        Check.well("if 0 {list a} elseif 0 then {list b} else {list c}", "c");
        Check.well("if 0 {list a} elseif 0 {list b}", "");
        Check.well("if 1 {list a} elseif {[error x]} {}", "a");
        Check.well("if 1 {}", "");
        Check.error("if x {}", "bad expression");
        Check.error("if {{x}} {}", "no truth: x");
        Check.error("if 0 {} elseif {{x}} {}", "no truth: x");
        Check.well("if yes {list a}", "a");
        Check.well("if off {list a}", "");
        Check.error("if 1 then then", "no command: then");
        Check.error("if 1 else", "no command: else");
    }

    private static void whiles() {
        Check.sentence("while E S: 0 and CONTINUE go on, BREAK ends it well.");
        Check.well("while 0 {error x}", "");
        Check.well("set i 0; while {$i < 3} {incr i}; set i", "3");
        Check.well("set i 0; while {[incr i] < 5} {if {$i == 2} continue; append l $i}; set l", "134");
        Check.well("set i 0; while 1 {if {[incr i] == 3} break}; set i", "3");
        Check.well("list x; while 1 {list a; break}", "");
        Check.error("while 1 {error x}", "x");
        Check.error("while {[error x]} {}", "x");
        Check.error("while {[break]} {}", "code 3");
        Check.limit("while 1 {}");
        Check.limit("while 1 continue");
    }

    private static void fors() {
        Check.sentence("for A E B S: A; then while E: S, B (S as for while; B: BREAK ends it well).");
        Check.well("for {set i 0} {$i < 3} {incr i} {append l $i}; list $i $l", "3 012");
        Check.well("for {set i 5} {$i < 3} {incr i} {error x}; set i", "5");
        Check.well("for {set i 0} {$i < 4} {incr i} {if {$i == 1} continue; append l $i}; set l", "023");
        Check.well("for {set i 0} {$i < 4} {incr i} {if {$i == 2} break}; set i", "2");
        Check.well("for {set i 0} 1 {if {[incr i] == 3} break} {append l $i}; list $i $l", "3 012");
        caught("", "for {} 1 {continue} {}", "4 {}");
        caught("", "for {} 1 {return x} {}", "2 x");
        caught("", "for {} 1 {return -level 0 -code 8 x} {}", "8 x");
        caught("", "for {} 1 {error x} {}", "1 x");
        caught("", "for {break} 1 {} {}", "3 {}");
        caught("", "for {continue} 1 {} {}", "4 {}");
        caught("", "for {} {[break]} {} {}", "3 {}");
        Check.well("for {} 1 {break} {list a}", "");
    }

    private static void switches() {
        Check.sentence("switch [-exact | -glob] [--] T P S ..: the first P that is T (glob: that T fits), default as the last P fits all: its S; an S that is - :"
            + " the next one's (not the last). Without one: no letters.");
        Check.well("switch a a {list 1}", "1");
        Check.well("switch b a {list 1}", "");
        Check.well("switch {} {} {list 1}", "1");
        Check.well("switch b a {list 1} b {list 2} b {list 3}", "2");
        Check.well("switch x a {list 1} default {list 2}", "2");
        Check.well("switch a a {list 1} default {list 2}", "1");
        Check.well("switch x default {list 1} a {list 2}", "");
        Check.well("switch default default {list 1} a {list 2}", "1");
        Check.well("switch a* a {list 1} a* {list 2}", "2");
        Check.well("switch -exact abc a* {list 1}", "");
        Check.well("switch -glob abc a* {list 1}", "1");
        Check.well("switch -glob abc b* {list 1} {[a-c]??} {list 2}", "2");
        Check.well("switch -- -glob -glob {list 1}", "1");
        Check.well("switch -glob -- -glob -g* {list 1}", "1");
        Check.well("switch -exact -- a a {list 1}", "1");
        Check.well("switch a a - b - c {list 3}", "3");
        Check.well("switch b a {list 1} b - c {list 3}", "3");
        Check.well("switch a a - default {list 3}", "3");
        Check.well("switch x a {list 1} b - default {list 3}", "3");
        Check.well("switch a a {list 1} b {error x}", "1");
        Check.sentence("The last S of switch may be - , the script - .");
        Check.error("switch a a -", "no command: -");
        Check.well("proc - {} {list m}; switch a a -", "m");
        Check.well("proc - {} {list m}; switch a a - b -", "m");
        Check.well("switch x a -", "");
    }

    private static void switchLists() {
        Check.sentence("or T and a list of these (two at least, even).");
        Check.well("switch a {a {list 1}}", "1");
        Check.well("switch b {a {list 1} b {list 2}}", "2");
        Check.well("switch x {a {list 1} default {list 2}}", "2");
        Check.well("switch -glob abc {a* {list 1}}", "1");
        Check.well("switch -- a {a {list 1}}", "1");
        Check.well("switch a {a - b {list 2}}", "2");
        Check.error("switch a {}", "arguments: switch");
        Check.error("switch a {a}", "arguments: switch");
        Check.error("switch a {a b c}", "arguments: switch");
        Check.error("switch a \\{", "missing brace");
        Check.error("switch a {a {list 1} {b}c}", "letters behind brace");
        Check.well("switch x {a b}", "");
        Check.well("switch b {a b c d}", "");
        Check.well("switch b a b c d", "");
    }

    private static void catches() {
        Check.sentence("catch S [N]: answers S's code; N is written, its answer.");
        Check.well("catch {}", "0");
        Check.well("catch {error x}", "1");
        Check.well("catch {return x}", "2");
        Check.well("catch break", "3");
        Check.well("catch continue", "4");
        Check.well("catch {return -level 0 -code 2147483647}", "2147483647");
        Check.well("catch {return -level 0 -code -2147483648}", "-2147483648");
        Check.well("catch {} r; set r", "");
        Check.well("catch {list a}; list [info exists {}] [info exists catch]", "0 0");
        Check.well("catch {list a} finally; set finally", "a");
        Check.well("catch {list \\{} r; set r", "\\{");
        Check.well("catch \"list \\{\" r; set r", "missing brace");
        Check.well("catch {catch {error x}} r; set r", "1");
        Check.error("set r(x) 1; catch {} r", "is array: r");
        Check.error("catch {} n::r", "no room: n");
        Check.well("catch {} r(x); array get r", "x {}");
        Check.limit("catch {while 1 {}}");
    }

    private static void tries() {
        Check.sentence("try S finally T: S, then T; ends as S, if T ends with 0, else as T.");
        for (String code : new String[] {"0", "1", "2", "3", "4", "9"}) {
            caught("", "try {return -level 0 -code " + code + " a} finally {set z 1}", code + " a");
            caught("", "try {return -level 0 -code 5 a} finally {return -level 0 -code " + code + " b}", code.equals("0") ? "5 a" : code + " b");
        }
        Check.puts("catch {try {puts a; error x} finally {puts b}}", "a\nb\n");
        Check.well("proc f {} {try {return -level 2 -code 7 a} finally {catch {return -level 9 b}}}; proc g {} {f}; list [catch g r] $r", "7 a");
        Check.well("proc f {} {try {return -level 2 a} finally {catch {return -level 5 b}}}; proc g {} {f; list no}; proc h {} {g; list yes}; list [g] [h]", "a yes");
        Check.well("proc f {} {try {return -level 3 a} finally {}}; proc g {} {f; list no}; proc h {} {g; list no}; h", "a");
        Check.well("try {} finally {}", "");
        Check.well("try {list a} finally {list b}", "a");
        Check.limit("try {while 1 {}} finally {puts a}");
    }

    private static void returns() {
        Check.sentence("return [-code C] [-level I] [V]: C ok, error, return, break, continue, or an INTEGER of 32 bits (\"bad code: C\"; 0 without).");
        String[][] good = {{"ok", "0"}, {"error", "1"}, {"return", "2"}, {"break", "3"}, {"continue", "4"}, {"0", "0"}, {"5", "5"}, {"-1", "-1"},
            {"2147483647", "2147483647"}, {"-2147483648", "-2147483648"}, {"0x10", "16"}, {"+7", "7"}, {"0x7fffffff", "2147483647"}};
        for (String[] pair : good) {
            Check.well("catch {return -level 0 -code " + pair[0] + "}", pair[1]);
            Check.well("proc f {} {return -code " + pair[0] + "}; catch f", pair[1]);
        }
        for (String code : new String[] {"2147483648", "-2147483649", "4294967296", "9223372036854775808", "{}", "x", "OK", "ok ", "Error", "1.0", "err", "0x80000000"}) {
            String told = code.equals("ok ") ? "{ok }" : code;
            Check.error("return -code " + told, "bad code: " + code.replace("{}", ""));
            Check.error("return -code " + told + " -level 0", "bad code: " + code.replace("{}", ""));
        }
        Check.well("list [catch {return -level 0} r] $r", "0 {}");
        Check.well("list [catch {return} r] $r", "2 {}");
        Check.well("list [catch {return -code} r] $r", "2 -code");
        Check.well("list [catch {return -level} r] $r", "2 -level");
        Check.well("list [catch {return -level 0 -code} r] $r", "0 -code");
        Check.well("list [catch {return -code 7 -level 0 {}} r] $r", "7 {}");
    }

    private static void returnLevels() {
        Check.sentence("I an INTEGER not below 0 (\"bad level: I\"; 1 without): with I 0 it ends with C (2 has LEFT 1, THEN 0 then), else with 2, LEFT I, THEN C.");
        caught("", "return -level 0 -code 7 x", "7 x");
        caught("", "return -level 1 -code 7 x", "2 x");
        caught("", "return -level 9223372036854775807 x", "2 x");
        caught("", "return -level 0x1 x", "2 x");
        caught("", "return -level -0 x", "0 x");
        for (String level : new String[] {"-1", "9223372036854775808", "{}", "x", "#1", "-9223372036854775808"}) {
            Check.error("return -level " + level, "bad level: " + level.replace("{}", ""));
        }
        Check.well("proc f {} {return -level 0 -code return x}; proc g {} {f; list y}; g", "y");
        Check.well("proc f {} {return -level 0 -code return x; list z}; f", "x");
    }

    private static void formals() {
        Check.sentence("A a list of formals: each a list of a name (with letters, without ( and : ), perhaps a default: else \"bad formal: F\".");
        for (String formal : new String[] {"a", "{a b}", "{a {}}", "{a {b c}}", "args", "{args x}", "_", "a)", "{{a b}}", "{{a b} c}", "#", "\\x00"}) {
            Check.well("proc f [list " + formal + "] {}", "");
        }
        String[] bad = {"{}", "{ }", "{{}}", "{{} x}", "{a b c}", "a(", "a(b)", "a:", ":a", "a::b", "{a( x}", "{{a b}c}", "\\{a", "\\\"a"};
        String[] told = {"", " ", "{}", "{} x", "a b c", "a(", "a(b)", "a:", ":a", "a::b", "a( x", "{a b}c", "{a", "\"a"};
        for (int i = 0; i < bad.length; i++) {
            Check.error("proc f [list " + bad[i] + "] {}", "bad formal: " + told[i]);
            Check.error("proc f [list a " + bad[i] + " {}] {}", "bad formal: " + told[i]);
            Check.error("apply [list [list " + bad[i] + "] {}]", "bad formal: " + told[i]);
        }
        Check.error("proc f \\{a {}", "missing brace");
        Check.well("catch {proc f {{}} {}}; info procs", "");
        Check.well("proc f {} {list old}; catch {proc f {{}} {}}; f", "old");
        Check.sentence("a procedure, in place of what was called so (\"no room: P\"; \"is running: N\" of a coroutine that is)");
        Check.well("proc set args {list mine}; set a 1", "mine");
        Check.error("proc n::p {} {}", "no room: n");
        Check.error("coroutine c proc c {} {}", "is running: c");
        Check.well("coroutine c yield; proc c {} {list p}; c", "p");
    }

    private static void calls() {
        Check.sentence("A call writes its words to them from the left, defaults where there are no more; the last one, if it is args, gets all others as a"
            + " list; too few, too many: \"arguments: N\".");
        Check.well("proc f {} {list x}; f", "x");
        Check.error("proc f {} {}; f 1", "arguments: f");
        Check.error("proc f a {}; f", "arguments: f");
        Check.well("proc f a {list $a}; f 1", "1");
        Check.error("proc f a {}; f 1 2", "arguments: f");
        Check.well("proc f {{a 5}} {list $a}; list [f] [f 1]", "5 1");
        Check.error("proc f {{a 5}} {}; f 1 2", "arguments: f");
        Check.well("proc f {a {b 5}} {list $a $b}; list [f 1] [f 1 2]", "{1 5} {1 2}");
        Check.error("proc f {a {b 5}} {}; f", "arguments: f");
        Check.error("proc f {{a 5} b} {}; f 1", "arguments: f");
        Check.well("proc f {{a 5} b} {list $a $b}; f 1 2", "1 2");
        Check.well("proc f args {list $args}; list [f] [f 1] [f 1 {2 3}]", "{{}} 1 {{1 {2 3}}}");
        Check.well("proc f {a args} {list $a $args}; list [f 1] [f 1 2] [f 1 2 3]", "{1 {}} {1 2} {1 {2 3}}");
        Check.error("proc f {a args} {}; f", "arguments: f");
        Check.well("proc f {args a} {list $args $a}; f 1 2", "1 2");
        Check.error("proc f {args a} {}; f 1 2 3", "arguments: f");
        Check.well("proc f {{args 7}} {list $args}; list [f] [f 1 2]", "{{}} {{1 2}}");
        Check.well("proc f {a a} {list $a}; f 1 2", "2");
        String nine = "proc f {a b c d e {f 6} {g 7} {h 8} {i 9} args} {list $a $b $c $d $e $f $g $h $i $args};";
        Check.error(nine + "f 1 2 3 4", "arguments: f");
        Check.well(nine + "f 1 2 3 4 5", "1 2 3 4 5 6 7 8 9 {}");
        Check.well(nine + "f 1 2 3 4 5 a b", "1 2 3 4 5 a b 8 9 {}");
        Check.well(nine + "f 1 2 3 4 5 a b c d e f", "1 2 3 4 5 a b c d {e f}");
        Check.well(nine + "info args f", "a b c d e f g h i args");
        Check.well("proc f args {set args}; f #", "{#}");
        Check.well("trace add variable a write {error x;#}; proc f a {list $a}; f 1", "1");
    }

    private static void applies() {
        Check.sentence("apply A V ..: A a list of formals, a body, perhaps a room (by its PATH from :: ; \"no room: P\"): else \"no lambda: A\"; as a procedure.");
        Check.error("apply {}", "no lambda: ");
        Check.error("apply a", "no lambda: a");
        Check.well("apply {a {list $a}} 1", "1");
        Check.well("namespace eval n {}; apply {{} {namespace current} n}", "::n");
        Check.well("namespace eval n {}; apply {{} {namespace current} ::n}", "::n");
        Check.well("apply {{} {namespace current} {}}", "::");
        Check.well("apply {{} {namespace current} ::}", "::");
        Check.error("apply {{} {} n}", "no room: n");
        Check.error("namespace eval n {namespace eval m {}; apply {{} {} m}}", "no room: m");
        Check.well("namespace eval n {namespace eval m {}; apply {{} {namespace current} n::m}}", "::n::m");
        Check.error("apply {{} {} n m}", "no lambda: {} {} n m");
        Check.error("apply \\{", "missing brace");
        Check.error("apply {a {}}", "arguments: apply");
        Check.error("apply {{} {}} 1", "arguments: apply");
        Check.well("namespace eval n {apply {{} {namespace current}}}", "::");
        Check.well("apply {{{a 5} args} {list $a $args}}", "5 {}");
    }

    private static void renames() {
        Check.sentence("rename A B: the command A is called B (\"no command: A\"; \"is there: B\"; \"no room: P\"), or is no more, if B has no letters"
            + " (\"is running: A\").");
        Check.error("rename nn mm", "no command: nn");
        Check.error("rename nn {}", "no command: nn");
        Check.error("rename set list", "is there: list");
        Check.error("rename set set", "is there: set");
        Check.error("rename set n::set", "no room: n");
        Check.error("rename n::p q", "no command: n::p");
        Check.well("rename set put; put a 1", "1");
        Check.error("rename set put; set a 1", "no command: set");
        Check.error("rename set {}; set a 1", "no command: set");
        Check.well("proc f {} {list x}; rename f g; list [g] [info commands f]", "x {}");
        Check.well("namespace eval n {proc p {} {namespace current}}; rename n::p q; q", "::");
        Check.well("namespace eval n {}; proc p {} {namespace current}; rename p n::p; n::p", "::n");
        Check.error("coroutine c rename c {}", "is running: c");
        Check.well("coroutine c eval {rename c d; info coroutine}", "::d");
        Check.well("coroutine c yield; rename c {}; info commands c", "");
        Check.well("coroutine c yield; rename c d; d 5", "5");
        Check.error("proc unknown args {list u}; rename nn mm", "no command: nn");
    }

    private static void rooms() {
        Check.sentence("namespace: eval R S ..: room R comes, if it isn't there (with those on the way). current: FULL name. exists R.");
        Check.well("list [namespace exists a] [namespace eval a::b::c {}] [namespace exists a] [namespace exists a::b] [namespace exists a::b::c]", "0 {} 1 1 1");
        Check.well("list [namespace exists ::] [namespace exists {}] [namespace exists a] [namespace exists ::a]", "1 1 0 0");
        Check.well("namespace eval a {}; list [namespace exists a] [namespace exists ::a] [namespace exists a::b] [namespace exists :a]", "1 1 0 0");
        Check.well("namespace eval a {}; namespace eval a {list [namespace exists a] [namespace exists ::a]}", "0 1");
        Check.well("namespace eval a {set x 1}; namespace eval a {set x}", "1");
        Check.error("namespace eval a {error x}", "x");
        Check.well("catch {namespace eval a {error x}}; namespace exists a", "1");
    }

    private static void deletes() {
        Check.sentence("delete R: with all in it (\"no room: R\"; of :: , or if a level that is there, also in coroutines, has it or a room in it, or a COROUTINE"
            + " of a name in it is running: \"in use: R\").");
        Check.error("namespace delete a", "no room: a");
        Check.error("namespace delete a::b", "no room: a::b");
        Check.error("namespace delete ::", "in use: ::");
        Check.well("namespace eval a {}; namespace delete a; namespace exists a", "0");
        Check.error("namespace eval a {}; namespace delete a; namespace delete a", "no room: a");
        Check.well("namespace eval a::b {}; namespace delete a; list [namespace exists a] [namespace exists a::b]", "0 0");
        Check.well("namespace eval a::b {}; namespace delete a::b; list [namespace exists a] [namespace exists a::b]", "1 0");
        Check check = new Check();
        check.ends(0, "namespace eval a::b::c::d::e::f {proc p {} {}}; namespace eval a::g::h {}; namespace eval i {}; namespace delete a", "");
        check.counts("rooms", 8, 1);
        check.counts("procedures", 9, 0);
        Check.error("namespace eval a {namespace delete ::a}", "in use: ::a");
        Check.error("namespace eval a::b {namespace delete ::a}", "in use: ::a");
        Check.well("namespace eval a {namespace eval b {}; namespace delete b; namespace exists b}", "0");
        Check.error("namespace eval a {proc p {} {namespace delete ::a}}; a::p", "in use: ::a");
        Check.error("namespace eval a {proc p {} ::q}; proc q {} {namespace delete a}; a::p", "in use: a");
        Check.error("namespace eval a {proc p {} ::q}; proc q {} ::r; proc r {} {namespace delete a}; a::p", "in use: a");
        Check.error("namespace eval a::b {proc p {} ::q}; proc q {} {namespace delete a}; namespace eval c ::a::b::p", "in use: a");
        Check.error("namespace eval a {proc p {} {::c; namespace delete ::a}}; proc g {} yield; coroutine c g; a::p", "in use: ::a");
        Check.error("namespace eval a {proc g {} yield}; proc p {} {c; namespace delete a}; coroutine b a::g; coroutine c a::g; p", "in use: a");
        Check.well("namespace eval a {proc g {} yield}; proc p {} {c; namespace delete a}; coroutine c a::g; p; namespace exists a", "0");
        Check.well("namespace eval a {proc p {} {}}; a::p; namespace delete a; namespace exists a", "0");
        Check.well("namespace eval a {proc p {} {error x}}; catch a::p; namespace delete a; namespace exists a", "0");
        Check.well("namespace eval a {proc p {} ::q}; proc q {} {}; a::p; namespace delete a; namespace exists a", "0");
        Check.well("namespace eval a {}; apply {{} {} a}; namespace delete a; namespace exists a", "0");
        Check.well("namespace eval a {proc p {} ::q}; proc q {} yield; coroutine c a::p; rename c {}; namespace delete a; namespace exists a", "0");
        Check.well("namespace eval a {proc p {} yield}; proc q {} a::p; coroutine c q; rename c {}; namespace delete a; namespace exists a", "0");
        Check.error("namespace eval a {proc p {} ::q}; proc q {} yield; coroutine c a::p; namespace delete a", "in use: a");
        Check.error("namespace eval a {}; apply {{} {namespace delete a} a}", "no room: a");
        Check.error("namespace eval a {}; apply {{} {namespace delete ::a} a}", "in use: ::a");
        Check.error("namespace eval a {proc p {} {uplevel #0 {namespace delete a}}}; a::p", "in use: a");
        Check.error("namespace eval a {proc p {} yield}; coroutine c a::p; namespace delete a", "in use: a");
        Check.well("namespace eval a {proc p {} yield}; coroutine c a::p; c; namespace delete a; namespace exists a", "0");
        Check.well("namespace eval a {proc p {} yield}; coroutine c a::p; rename c {}; namespace delete a; namespace exists a", "0");
        Check.error("namespace eval a {}; coroutine a::c namespace delete a", "in use: a");
        Check.well("namespace eval a {}; coroutine a::c yield; namespace delete a; catch a::c e; set e", "no command: a::c");
        Check.error("namespace eval a::b {}; coroutine a::b::c namespace delete a", "in use: a");
        Check.well("namespace eval a {proc p {} {list x}}; namespace delete a; catch a::p e; set e", "no command: a::p");
        Check.error("namespace eval a {set v 1}; namespace delete a; set a::v", "no room: a");
    }

    private static void tails() {
        Check.sentence("qualifiers T, tail T: ahead of the last two or more : together (these left out), behind them (without any: none, T).");
        String[][] due = {{"a", "", "a"}, {"{}", "", ""}, {"::", "", ""}, {"::a", "", "a"}, {"a::", "a", ""}, {"a::b", "a", "b"}, {"a:::b", "a", "b"},
            {"a::b::c", "a::b", "c"}, {"::a::b", "::a", "b"}, {"a:b", "", "a:b"}, {":", "", ":"}, {":a", "", ":a"}, {"a:", "", "a:"}, {":::", "", ""},
            {"a::b:c", "a", "b:c"}, {"a:::::b", "a", "b"}, {"a::b:", "a", "b:"}, {":::a:::b", ":::a", "b"}};
        for (String[] row : due) {
            Check.well("namespace qualifiers " + row[0], row[1]);
            Check.well("namespace tail " + row[0], row[2]);
        }
    }

    private static void coroutines() {
        Check.sentence("coroutine N C V ..: \"no room: P\"; \"is there: N\"; a COROUTINE of FULL name N runs the command C V .. at level 0, depth 1, until it yields"
            + " or ends. yield [V]: it stops, V is the answer of what made it run; N [V] goes on: the yield answers V.");
        Check.error("coroutine n::c list", "no room: n");
        Check.error("coroutine set list", "is there: set");
        Check.error("coroutine c yield; coroutine c yield", "is there: c");
        Check.error("proc c {} {}; coroutine c list", "is there: c");
        Check.well("coroutine c list a", "a");
        Check.well("coroutine c yield", "");
        Check.well("coroutine c yield a", "a");
        Check.well("coroutine c yield a; c", "");
        Check.well("coroutine c yield a; c b", "b");
        Check.well("coroutine c yield a; list [c {}] [info commands c]", "{} {}");
        Check.error("coroutine c yield; c 1 2", "arguments: c");
        Check.well("coroutine c yield; catch {c 1 2}; c 3", "3");
        Check.well("proc f {} {set x 1; coroutine c info exists x}; f", "0");
        Check.well("namespace eval n {coroutine c namespace current}", "::");
        Check.well("proc f {} {coroutine c eval {list [info level] [catch {uplevel 1 {}} e] $e}}; f", "0 1 {no level: 1}");
        Check.well("namespace eval n {coroutine c yield}; list [info commands c] [n::c 5]", "{} 5");
        Check.error("namespace eval n {proc p {} {list x}; coroutine c p}", "no command: p");
    }

    private static void coroutineEnds() {
        Check.sentence("What ends it (C's code and answer; RETURN as of a procedure) is what N's call, or coroutine, ends with; N is no command any more."
            + " Codes 3, 4 of a coroutine's command are handed on as they are.");
        String[][] due = {{"list a", "0 a"}, {"error a", "1 a"}, {"return a", "0 a"}, {"return -level 1 -code 7 a", "7 a"}, {"return -level 2 a", "2 a"},
            {"return -code return a", "2 a"}, {"return -code error a", "1 a"}, {"break", "3 {}"}, {"continue", "4 {}"}, {"return -level 0 -code 9 a", "9 a"},
            {"return -code break a", "3 a"}, {"nn", "1 {no command: nn}"}};
        for (String[] pair : due) {
            caught("", "coroutine c " + pair[0], pair[1]);
            Check.well("catch {coroutine c " + pair[0] + "}; info commands c", "");
            if (!pair[0].equals("nn")) {
                caught("coroutine c eval {yield; " + pair[0] + "};", "c", pair[1]);
                Check.well("coroutine c eval {yield; " + pair[0] + "}; catch c; info commands c", "");
            }
        }
        caught("proc f {} {yield; return -level 2 a}; coroutine c f;", "c", "0 a");
        caught("proc f {} {yield; return -level 3 a}; coroutine c f;", "c", "2 a");
        caught("proc f {} {yield; break}; coroutine c f;", "c", "1 {code 3}");
        Check.well("proc f {} {coroutine c return -level 2 x; list y}; f", "x");
        Check.well("catch {coroutine c error a}; catch c e; set e", "no command: c");
    }

    private static void running() {
        Check.sentence("Running ones (also those that wait for another): \"is running: N\".");
        Check.error("coroutine c c", "is running: c");
        Check.error("coroutine c ::c", "is running: ::c");
        Check.error("coroutine c coroutine d c", "is running: c");
        Check.well("coroutine c eval {yield; d}; coroutine d eval {yield; catch c e; set e}; c", "is running: c");
        Check.well("coroutine c eval {catch c e; yield $e}", "is running: c");
        Check.error("coroutine c coroutine d rename c {}", "is running: c");
        Check.error("coroutine c coroutine d proc c {} {}", "is running: c");
        Check.well("coroutine c coroutine d rename c e; info commands {[cde]}", "");
        Check.error("coroutine c coroutine c list", "is there: c");
    }

    private static void twentyRunning() {
        Check.sentence("More than 20 running within one another: \"too deep\".");
        String nest = "proc n i {incr ::k; if {$i == 0} {return end}; coroutine c$i n [incr i -1]};";
        Check.well(nest + "list [n 20] $k", "end 21");
        Check.well(nest + "list [catch {n 21} e] $e $k [info commands c?*]", "1 {too deep} 21 {concat catch continue coroutine}");
        Check.well(nest + "catch {n 21}; list [n 20] $k", "end 42");
        String wait = "for {set i 1} {$i <= 25} {incr i} {coroutine w$i eval {yield; list x}};";
        Check.well(wait + "list [w1] [w25]", "x x");
        Check.well(nest + "coroutine z eval {yield; list x}; proc m i {if {$i == 0} {return [z]}; coroutine d$i m [incr i -1]}; m 19", "x");
        Check.well("coroutine z eval {yield; list x}; proc m i {if {$i == 0} {return [z]}; coroutine d$i m [incr i -1]}; list [catch {m 20} e] $e [z]",
            "1 {too deep} x");
    }

    private static void yields() {
        Check.sentence("yield outside of all: \"no coroutine\"; in WATCHES that are DONE since it runs: \"can't yield\".");
        Check.error("yield", "no coroutine");
        Check.error("yield a", "no coroutine");
        Check.error("proc f {} yield; f", "no coroutine");
        Check.error("trace add variable a write {yield;#}; set a 1", "watch: no coroutine");
        Check.error("trace add variable a write {yield;#}; coroutine c set a 1", "watch: can't yield");
        Check.well("trace add variable a write {coroutine c yield;#}; set a 1; info commands c", "c");
        Check.well("coroutine c yield; trace add variable a write {c;#}; set a 1; info commands c", "");
        Check.well("coroutine c eval {yield 1; yield 2; list 3}; trace add variable a write {set ::r [c];#}; set a 1; list $r [c]", "2 3");
        Check.well("trace add variable a write {coroutine c eval {trace add variable b write {catch yield ::e;#}; set b 1; yield};#}; set a 1; list $e [c 5]",
            "{can't yield} 5");
        Check.well("coroutine c eval {set a 1; yield x}; c y", "y");
    }

    private static void forgotten() {
        Check.sentence("One that is no more (renamed to no letters, told anew by proc, its room deleted) is forgotten as it stands.");
        String c = "coroutine c eval {try {yield} finally {puts f}};";
        Check.puts(c + "rename c {}", "");
        Check.puts(c + "proc c {} {}", "");
        Check.puts("namespace eval n {" + c + "}; namespace delete n", "");
        Check.puts(c + "c", "f\n");
        Check check = new Check();
        check.ends(0, c + "list", "");
        check.counts("there", 7, 1);
        check.ends(0, "rename c {}", "");
        check.counts("forgotten", 7, 0);
        check.ends(0, "coroutine c yield; c 1", "1");
    }
}
