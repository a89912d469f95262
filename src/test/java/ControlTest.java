/** Part VI and the commands that evaluate scripts or end with codes; coroutines. */
public final class ControlTest {
    public static void main(String[] args) {
        ifs();
        loops();
        switches();
        codes();
        returns();
        coroutines();
        yields();
        others();
        Check.end();
    }

    private static void ifs() {
        Check.well("if 1 {list a}", "a");
        Check.well("if 0 {list a}", "");
        Check.well("if 0 then {list a} elseif 1 then {list b} else {list c}", "b");
        Check.well("if 0 {list a} elseif 0 {list b} {list c}", "c");
        for (String words : new String[] {"if", "if 1", "if 1 then", "if 1 a else", "if 1 a elseif", "if 1 a elseif 1", "if 1 a b c",
            "if 1 a else b c", "if 1 a else b elseif 1 c"}) {
            Check.error(words.replace(" 1", " [puts x]"), "arguments: if");
        }
        Check.error("if {[error x]} {}", "x");
        Check.error("if 1 {error x}", "x");
        Check.error("if 1 break", "code 3");
    }

    private static void loops() {
        Check.well("set i 0; while {$i < 5} {incr i; if {$i == 2} continue; if {$i == 4} break; append o $i}; list $o $i", "13 4");
        Check.well("for {set i 0} {$i < 5} {incr i} {if {$i == 2} continue; if {$i == 4} break; append o $i}; list $o $i", "013 4");
        Check.well("while 0 {}", "");
        Check.well("for {} 1 {break} {}; list a", "a");
        Check.error("for {} 1 {continue} {}", "code 4");
        Check.error("for {break} 1 {} {}", "code 3");
        Check.error("for {set i 0} {$i < 2} {error s} {incr i}", "s");
        Check.error("while {[error x]} {}", "x");
        Check.well("foreach {a b} {1 2 3} c {x} {append o $a,$b,$c\\;}; set o", "1,2,x;3,,;");
        Check.well("foreach a {} {error x}; foreach a {1 2} {break}; set a", "1");
        Check.error("foreach {} {1} {}", "no names");
        Check.error("foreach a \"{\" {}", "missing brace");
        Check.error("foreach \"{\" {} {}", "missing brace");
        Check.error("foreach a \"{\" {} {} {}", "no names");
        Check.error("foreach a {1} b {}", "arguments: foreach");
        Check.error("foreach a b", "arguments: foreach");
        Check.well("lmap a {1 2 3 4 5} {if {$a == 2} continue; if {$a == 4} break; list $a x}", "{1 x} {3 x}");
        Check.well("lmap a {1 2} {lmap b {3 4} {expr {$a * $b}}}", "{3 4} {6 8}");
        Check.well("dict for {k v} {a 1 b 2 a 3} {lappend o $k $v}; set o", "a 3 b 2");
        Check.error("dict for {k} {a 1} {}", "no names");
        Check.error("dict for {k v} {a} {}", "no dictionary");
        Check.error("dict for {k v} \\{ {}", "missing brace");
        Check.error("dict for {k v} {a 1}", "arguments: dict");
        Check.well("dict for {k v} {} {error e}", "");
        Check.well("dict for {k v} {a 1 b 2 c 3} {if {$v == 2} break}; list $k $v", "b 2");
        Check.well("dict for {k v} {a 1 b 2 c 3} {if {$v == 2} continue; append o $k}; set o", "ac");
        Check.error("dict for {k v} {a 1 b 2 c 3} {if {$v == 2} {error $k}}", "b");
        Check.well("dict for {k k} {a 1 b 2} {lappend o $k}; set o", "1 2");
        Check.well("set d {a 1 b 2}; dict for {k v} $d {dict unset d b; set k x; lappend o $k $v}; list $d $o", "{a 1} {x 1 x 2}");
        Check.well("dict for {k v} {a {x 1 y 2} b {z 3}} {dict for {l w} $v {lappend o $k$l$w}}; set o", "ax1 ay2 bz3");
        Check.well("coroutine c dict for {k v} {a 1 b 2 a 3} {yield $k$v}; list [c] [c] [info commands c]", "b2 {} {}");
        Check.error("set v(1) 2; dict for {k v} {a 1} {}", "is array: v");
        Check.error("trace add variable v write {error w;#}; dict for {k v} {a 1} {}", "watch: w");
        Check.error("namespace eval n {}; dict for {n::k n::v} {a 1 b 2} {namespace delete n}", "no room: n");
        Check.well("foreach a {1 2} {set r [catch {return -code 7 z} e]}; list $r $e", "2 z");
        Check.well("proc f {} {foreach a {1 2 3} {if {$a == 2} {return $a}}}; f", "2");
        Check.well("set a 1; set l {1 2 3}; foreach x $l {lappend l $x}; set l", "1 2 3 1 2 3");
    }

    private static void switches() {
        Check.well("switch b a {list 1} b {list 2} default {list 3}", "2");
        Check.well("switch x {a {list 1} b {list 2} default {list 3}}", "3");
        Check.well("switch a {a - b - c {list 2}}", "2");
        Check.well("switch default {default {list 1} a {list 2}}", "1");
        Check.well("switch x {default {list 1} a {list 2}}", "");
        Check.well("switch -glob abc {b* {list 1} a*c {list 2}}", "2");
        Check.well("switch -exact -- -glob {-glob {list 1}}", "1");
        Check.well("switch -- -exact {-exact {list 1}}", "1");
        Check.error("switch a {a -}", "no command: -");
        Check.error("switch a {a}", "arguments: switch");
        Check.error("switch a {a b c}", "arguments: switch");
        Check.error("switch a a b c", "arguments: switch");
        Check.error("switch a", "arguments: switch");
        Check.error("switch a {}", "arguments: switch");
        Check.error("switch a \"{\"", "missing brace");
    }

    private static void codes() {
        Check.well("list [catch {list a} x] $x", "0 a");
        Check.well("list [catch {error a} x] $x", "1 a");
        Check.well("list [catch {return a} x] $x", "2 a");
        Check.well("list [catch break x] $x [catch continue]", "3 {} 4");
        Check.well("list [catch {return -level 0 -code 77 a} x] $x", "77 a");
        Check.well("catch {catch {error a}}", "0");
        Check.error("set a(1) 2; catch list a", "is array: a");
        Check.error("catch", "arguments: catch");
        Check.error("break", "code 3");
        Check.error("return -level 0 -code -5", "code -5");
        Check.error("error", "arguments: error");
        Check.error("break a", "arguments: break");
        Check.well("try {list a} finally {set x 1}; list $x [try {list b} finally {list c}]", "1 b");
        Check.error("try {error a} finally {list b}", "a");
        Check.error("try {error a} finally {error b}", "b");
        Check.well("proc f {} {try {return -code 5 a} finally {catch {return -level 3 b}}}; list [catch f e] $e", "5 a");
        Check.error("try {puts a} finaly {}", "arguments: try");
        Check.error("try {puts a}", "arguments: try");
        Check.well("eval list a {b c}", "a b c");
        Check.well("eval {list a}", "a");
        Check.error("eval", "arguments: eval");
        Check.well("subst {a [list b; list c] \\$ \"x\"}", "a c $ \"x\"");
        Check.error("subst {[list}", "missing bracket");
        Check.well("catch {subst {x[break]y}}", "3");
        Check.error("subst {[error q]}", "q");
    }

    private static void returns() {
        Check.well("proc f {} {return a}; f", "a");
        Check.well("return a", "a");
        Check.well("return -code error a", "a");
        Check.well("proc f {} {return -code error a}; list [catch f e] $e", "1 a");
        Check.well("proc f {} {return -code break}; foreach x {1 2} {f}; set x", "1");
        Check.well("proc f {} {return -code return a}; proc g {} {f; list b}; g", "a");
        Check.well("proc f {} {return -level 2 a}; proc g {} {f; list b}; g", "a");
        Check.well("proc f {} {return -level 2 -code error a}; proc g {} {f; list b}; list [catch g e] $e", "1 a");
        Check.well("proc f {} {return -code 2 -level 2 a}; proc g {} {f; list b}; proc h {} {g; list c}; h", "a");
        Check.well("proc f {} {return -level 0 a; list b}; f", "b");
        Check.well("list [catch {return -code 9 -level 0 x} e] $e", "9 x");
        Check.error("proc f {} break; f", "code 3");
        Check.error("proc f {} continue; f", "code 4");
        Check.well("proc f {} {catch {return -level 3 x} e; set e}; f", "x");
        Check.well("return -code", "-code");
        Check.well("return -code 0 -level", "-level");
        Check.error("return -code x", "bad code: x");
        Check.error("return -code 2147483648", "bad code: 2147483648");
        Check.well("catch {return -code -2147483648 -level 0}", "-2147483648");
        Check.error("return -level -1", "bad level: -1");
        Check.error("return -level x -code y", "bad level: x");
        Check.error("return -code y -level x", "bad code: y");
        Check.error("return -code 1 -code 2", "arguments: return");
        Check.error("return a b", "arguments: return");
        Check.error("return -foo b", "arguments: return");
        Check.well("proc f {} {uplevel 1 {return a}; list b}; proc g {} {f; list c}; list [f] [g]", "a c");
    }

    private static void coroutines() {
        Check.well("proc g {} {yield 1; yield 2; return 3}; list [coroutine c g] [c] [c] [info commands c]", "1 2 3 {}");
        Check.well("proc g {} {set x 0; while 1 {incr x [yield $x]}}; coroutine c g; c 5; c 7", "12");
        Check.well("coroutine c yield a; c b", "b");
        Check.well("coroutine c list a; info commands c", "");
        Check.error("coroutine c error x", "x");
        Check.error("coroutine c nn", "no command: nn");
        Check.well("proc g {} {yield; error x}; coroutine c g; list [catch c e] $e [catch c e] $e", "1 x 1 {no command: c}");
        Check.error("coroutine a::b list", "no room: a");
        Check.error("coroutine list list", "is there: list");
        Check.error("coroutine c", "arguments: coroutine");
        Check.error("coroutine c yield; c 1 2", "arguments: c");
        Check.error("coroutine c eval c", "is running: c");
        Check.error("coroutine c eval {coroutine d eval {c}}", "is running: c");
        Check.error("coroutine c eval {rename c {}}", "is running: c");
        Check.error("coroutine c eval {proc c {} {}}", "is running: c");
        Check.well("coroutine c eval {rename c d; yield [info coroutine]}; list [info commands c] [d 5]", "{} 5");
        Check.well("coroutine c eval {rename c d; info coroutine}", "::d");
        Check.well("namespace eval n {coroutine c eval {info coroutine}}", "::n::c");
        Check.well("info coroutine", "");
        Check.well("coroutine c eval {coroutine d eval {yield x}; info coroutine}", "::c");
        Check.well("proc f {} {coroutine c eval {info level}}; f", "0");
        Check.well("proc g {} {info level 1}; coroutine c g", "g");
        Check.well("coroutine c yield; rename c {}; catch c e; set e", "no command: c");
        Check.well("coroutine c yield; proc c {} {list p}; c", "p");
        Check.well("list [catch {coroutine c break}] [catch {coroutine c continue}]", "3 4");
        Check.well("proc g {} {return -code 5 x}; list [catch {coroutine c g} e] $e", "5 x");
        Check.well("list [catch {coroutine c return -code 5 x} e] $e", "5 x");
        Check.well("list [catch {coroutine c return -level 2 x} e] $e", "2 x");
        Check.well("proc n i {if {$i == 20} {return deep}; coroutine c$i n [expr {$i + 1}]}; n 0", "deep");
        Check.well("proc n i {if {$i == 21} {return deep}; coroutine c$i n [expr {$i + 1}]}; list [catch {n 0} e] $e [info commands c*0]", "1 {too deep} {}");
        Check check = new Check();
        check.ends(0, "coroutine c yield; coroutine d yield; proc f {} {}; list", "");
        Check.due("coroutines", check.house.count(7), 2);
        check.ends(0, "c; list", "");
        Check.due("coroutines", check.house.count(7), 1);
        check.ends(0, "d x", "x");
        Check.due("coroutines", check.house.count(7), 0);
    }

    private static void yields() {
        Check.error("yield", "no coroutine");
        Check.error("coroutine c eval {trace add variable a write {yield;#}; set a 1}", "watch: can't yield");
        Check.well("trace add variable a write {coroutine c eval {yield 5; set ::b 6};#}; set a 1; c; set b", "6");
        Check.well("coroutine c eval {yield}; trace add variable a write {c 7;#}; set a 1; info commands c", "");
        Check.well("coroutine c eval {list [yield 1] [yield 2] [yield 3]}; c a; c b; c d", "a b d");
        Check.well("coroutine c eval {expr {[yield 1] + [yield 2]}}; c 3; c 4", "7");
        Check.well("coroutine c eval {subst {x[yield 1]y[yield 2]z}}; c 3; c 4", "x3y4z");
        Check.well("coroutine c eval {foreach x {1 2 3} {yield $x}; list end}; list [c] [c] [c]", "2 3 end");
        Check.well("coroutine c eval {lmap x {1 2 3} {yield $x}}; c a; c b; c d", "a b d");
        Check.well("coroutine c eval {catch {yield 1} e; set e}; c q", "q");
        Check.well("coroutine c eval {try {yield 1} finally {yield 2}}; list [c a] [c b]", "2 a");
        Check.well("proc f {} {set l 1; uplevel 1 {yield u}; incr l}; proc g {} {f}; coroutine c g; c", "2");
        Check.well("proc f n {if {$n == 0} {yield here} else {f [expr {$n - 1}]; list $n}}; coroutine c f 20; c", "20");
        Check.well("proc f {} {set l [yield]; g}; proc g {} {upvar 1 l m; list $m [yield $m] $m}; coroutine c f; c 4; c 5", "4 5 4");
        Check.well("coroutine c eval {while {[yield] ne {x}} {incr ::n}}; c a; c b; c x; set n", "2");
        Check.well("coroutine c namespace eval n {yield [namespace current]; set v 3}; c; set n::v", "3");
        Check.well("proc p {} {yield a; yield b}; coroutine c eval {p; list z}; coroutine d eval {yield [c]; c}; list [d] [info commands {[cd]}]", "z {}");
        Check.well("proc gen n {for {set i 0} {$i < $n} {incr i} {yield $i}}; coroutine a gen 3; coroutine b gen 9; list [a] [b] [a] [b] [a] [b]",
            "1 1 2 2 {} 3");
        Check.error("coroutine c yield a b", "arguments: yield");
        Check.well("array set a {x1 A x2y B}; proc f {} {upvar #0 a a; list p <$a(x[yield])|$a(x[yield]y)>[yield] {*}[yield] z};"
            + "coroutine c f; c 1; c 2; c {3 4}; c {5 6}", "p {<A|B>3 4} 5 6 z");
        Check.well("coroutine c eval {expr {1 + [yield] * \"[yield][yield]\"}}; c 2; c 3; c 4", "69");
        Check.well("coroutine c subst {a[yield]b[yield]c}; c 1; c 2", "a1b2c");
    }

    private static void others() {
        Check check = new Check();
        check.ends(0, "puts a; puts -nonewline b; puts -nonewline", "");
        Check.due("output", check.output(), "a\nb-nonewline\n");
        check.ends(1, "puts x; puts -x b", "arguments: puts");
        Check.due("output", check.output(), "x\n");
        Check.due("told(0, 1)", check.house.told(0, 1), 10);
        Check.due("told(0, 2)", check.house.told(0, 2), CommandHouse.NONE);
        Check.due("told(0, -1)", check.house.told(0, -1), CommandHouse.NONE);
        Check.due("told(2, 0)", check.house.told(2, 0), CommandHouse.NONE);
        Check.due("told(1, 0)", check.house.told(1, 0), (int) 'a');
        Check.due("sum(0)", check.house.sum(0), 31 * 'x' + 10);
        check.ends(0, "foreach x {1 2 3 4} {puts [string repeat a 999]}", "");
        Check.due("output", check.house.count(0), 3000);
        check.ends(0, "list \\xff", "\u00ff");
        Check.due("told(1, 0)", check.house.told(1, 0), 255);
        Check.due("sum(1)", check.house.sum(1), 255);
    }
}
