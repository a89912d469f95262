/** WATCHES: when they are DONE, what they get, and how they end an act. */
public final class WatchTest {
    private static final String NOTE = "proc note args {lappend ::log $args}; ";

    public static void main(String[] args) {
        acts();
        elements();
        links();
        order();
        errors();
        removal();
        nesting();
        tells();
        amongLetters();
        Check.end();
    }

    private static void acts() {
        Check.well(NOTE + "trace add variable a {read write unset} {note x}; set a 1; set a; list $a; unset a; set log",
            "{x a {} write} {x a {} read} {x a {} read} {x a {} unset}");
        Check.well(NOTE + "trace add variable a read note; catch {set a}; info exists a; set log", "{a {} read}");
        Check.well(NOTE + "trace add variable a {read write} note; incr a; incr a; append a 1; lappend a 2; set log",
            "{a {} write} {a {} read} {a {} write} {a {} read} {a {} write} {a {} read} {a {} write}");
        Check.well(NOTE + "trace add variable a {read write} note; append a x; append a; lappend a; set log",
            "{a {} write} {a {} read} {a {} read}");
        Check.well(NOTE + "trace add variable a {read write} note; foreach a {1 2} {}; lassign 3 a; catch list a; set log",
            "{a {} write} {a {} write} {a {} write} {a {} write}");
        Check.well(NOTE + "trace add variable a {read write} note; dict set a k 1; dict incr a k; dict get $a; set log",
            "{a {} write} {a {} read} {a {} write} {a {} read}");
        Check.well(NOTE + "set a {x y}; trace add variable a {read write} note; lset a 0 z; lset a q; set log",
            "{a {} read} {a {} write} {a {} write}");
        Check.well(NOTE + "trace add variable ::a write note; set a 1; set ::a 2; set log", "{a {} write} {::a {} write}");
        Check.well("set a 1; trace add variable a read {set a 2;#}; list $a", "2");
        Check.well("trace add variable a read {set a 7;#}; list $a", "7");
        Check.well("trace add variable a write {set a 9;#}; list [set a 1] $a", "9 9");
        Check.error("trace add variable a write {unset a;#}; set a 1", "no name: a");
        Check.error("set a 1; trace add variable a read {unset a;#}; set a", "no name: a");
        Check.well("proc f {x} {set x}; proc g {x} {trace add variable x {read write} {lappend ::l};set x; f 1}; g 5; set l", "x {} read");
        Check.well(NOTE + "namespace eval n {set v 1}; trace add variable n::v unset note; namespace delete n; info exists log", "0");
        Check.well(NOTE + "proc f {} {set v 1; trace add variable v unset note}; f; info exists log", "0");
        Check.error("namespace eval n {set v 1}; trace add variable n::v read {namespace delete n;#}; set n::v", "no room: n");
        Check.error("namespace eval n {set v 1}; trace add variable n::v write {namespace delete n;#}; set n::v 5", "no name: n::v");
        Check.well("namespace eval n {array set a {x 1 y 2}}; trace add variable n::a(x) unset {namespace delete n;#}; array unset n::a *", "");
        Check.well("set x 1; trace add variable x read {incr n;#}; catch {set x(1)} e; list $e $n", "{no array: x} 1");
        Check.well("proc w args {uplevel 1 {lappend got $y}}; proc f {} {set y 5; trace add variable x write w; set x 1; set got}; f", "5");
        Check.well("proc f {} {set y 5; trace add variable x write {set y 6;#}; set x 1; set y}; f", "6");
    }

    private static void elements() {
        Check.well(NOTE + "trace add variable a write {note arr}; trace add variable a(x) write {note elem}; set a(x) 1; set a(y) 2; set log",
            "{arr a x write} {elem a x write} {arr a y write}");
        Check.well("trace add variable a(x) read list; list [array exists a] [array size a] [info exists a(x)]", "1 0 0");
        Check.error("set a 1; trace add variable a(x) read list", "no array: a");
        Check.error("trace add variable n::a read list", "no room: n");
        Check.well(NOTE + "set a(x) 1; trace add variable a(x) unset note; unset a; info exists log", "0");
        Check.well(NOTE + "set a(x) 1; trace add variable a unset note; unset a(x); unset a; set log", "{a x unset} {a {} unset}");
        Check.well(NOTE + "trace add variable a {read write unset} note; array set a {x 1 y 2}; array get a; array names a; array size a; set log",
            "{a x write} {a y write}");
        Check.well(NOTE + "array set a {x 1 y 2}; trace add variable a unset note; array unset a *; set log", "{a x unset} {a y unset}");
        Check.well("array set a {x 1 y 2 z 3}; trace add variable a(x) unset {unset a(y);#}; array unset a *; array get a", "");
        Check.well(NOTE + "trace add variable a(q) write list; set a(b) 1; set a(q) 2; array names a", "b q");
        Check.well(NOTE + "trace add variable a read note; catch {set a(z)} e; list $e $log", "{no name: a(z)} {{a z read}}");
    }

    private static void links() {
        Check.well(NOTE + "upvar 0 a b; trace add variable b write note; set a 1; set b 2; set log", "{a {} write} {b {} write}");
        Check.well(NOTE + "trace add variable a write note; upvar 0 a(1) e; set e 5; set log", "{e {} write}");
        Check.well(NOTE + "upvar 0 a(1) e; trace add variable e {write unset} note; set a(1) 5; unset e; set log", "{a 1 write} {e {} unset}");
        Check.well(NOTE + "trace add variable b write note; upvar 0 a b; set b 1; list [info exists log] [trace info variable b]", "0 {}");
        Check.error("upvar 0 a(1) e; trace add variable e(2) write list", "no array: e");
        Check.well("upvar 0 a(1) e; trace remove variable e(2) write list; trace info variable e(2)", "");
        Check.well(NOTE + "proc f {} {global g; trace add variable g write note; set g 1}; f; set g 2; set log", "{g {} write} {g {} write}");
    }

    private static void order() {
        Check.well(NOTE + "trace add variable a write {note 1}; trace add variable a write {note 2}; set a 1; set log",
            "{2 a {} write} {1 a {} write}");
        Check.well("trace add variable a write {append ::l x; set a 5;#}; set a 1; list $l $a", "x 5");
        Check.well("trace add variable a write {append ::l 1;#}; trace add variable a write {append ::l 2; trace remove variable a write {append ::l 1;#};#};"
            + " set a 1; set l", "2");
        Check.well("trace add variable a write {append ::l 1; trace add variable a write {append ::l 3;#};#}; set a 1; set l", "1");
        Check.well("trace add variable a write {append ::l 1; trace add variable a write {append ::l 3;#};#}; set a 1; set a 2; set l", "131");
        Check.well("trace add variable a write {set b 1;#}; trace add variable b write {append ::l b; set a 2;#}; set a 1; set l", "b");
        Check.well("trace add variable a unset {append ::l 1;#}; trace add variable a unset {error x}; set a 1; unset a; set l", "1");
        Check.well("trace add variable a(x) write {append ::l e;#}; trace add variable a write {append ::l a; set a(x) 3;#}; set a(x) 1; set l",
            "aee");
    }

    private static void errors() {
        Check.error("trace add variable a write {error no;#}; set a 1", "watch: no");
        Check.well("trace add variable a write {error no;#}; catch {set a 1}; set a", "1");
        Check.error("trace add variable a read {return 5;#}; set a 1; set a", "watch: 5");
        Check.error("trace add variable a write break; set a 1", "watch: arguments: break");
        Check.well("trace add variable a write {error 1;#}; trace add variable a write {error 2;#}; catch {set a 1} e; set e", "watch: 2");
        Check.well("set a 1; trace add variable a unset {error no;#}; unset a; info exists a", "0");
        Check.error("trace add variable a write {error no;#}; foreach a {1 2} {puts $a}", "watch: no");
        Check.error("trace add variable a write {error no;#}; catch list a", "watch: no");
        Check.well("trace add variable a write {set z [expr {1/0}];#}; catch {incr a} e; list $e $a", "{watch: divided by 0} 1");
    }

    private static void removal() {
        Check.well("trace add variable a write {append ::l x;#}; set a 1; unset a; set a 2; list $l [trace info variable a]", "x {}");
        Check.well("trace add variable a {write read} x; trace remove variable a {read write} x; trace info variable a", "");
        Check.well("trace add variable a {write read} x; trace remove variable a write x; trace info variable a", "{{read write} x}");
        Check.well("trace add variable a write x; trace add variable a write x; trace remove variable a write x; trace info variable a", "{write x}");
        Check.well("trace remove variable b write x; trace remove variable b(1) write x; trace info variable b", "");
        Check.error("trace remove variable b foo x", "bad ops: foo");
        Check.error("trace add variable b {} x", "bad ops: ");
        Check.error("trace add variable b {read foo} x", "bad ops: read foo");
        Check.error("trace add variable b \"{\" x", "missing brace");
        Check.error("trace add foo b read x", "arguments: trace");
        Check.error("trace foo variable b", "no such: foo");
        Check.error("trace add variable b read", "arguments: trace");
    }

    private static void nesting() {
        StringBuilder chain = new StringBuilder();
        for (int i = 0; i < 12; i++) {
            chain.append("trace add variable v").append(i).append(" write {incr ::n; set v").append(i + 1).append(" 1;#}; ");
        }
        Check.well(chain + "list [catch {set v0 1} e] $n [string length $e]", "1 10 78");
        Check.well(chain + "catch {set v0 1}; list [info exists v10] [info exists v11]", "1 0");
        Check.well(chain.toString().replace("set v0 1", "") + "catch {set v2 1} e; list $e $n", "1 10");
        String deep = "trace add variable a write {incr ::w;#}; proc g n {incr ::m; if {$::m == $n} {catch {set ::a 1} ::e; return}; g $n}; ";
        Check.well(deep + "g 96; list $e $w", "1 1");
        Check.well(deep + "g 97; list $e [info exists w] $a", "{too deep} 0 1");
    }

    private static void tells() {
        Check.well("trace add variable a {unset write} x; trace add variable a read {y z}; trace info variable a", "{read {y z}} {{write unset} x}");
        Check.well("trace info variable nn", "");
        Check.error("trace info variable n::n", "no room: n");
        Check.well("set #a 1; trace add variable #a write {lappend l}; set #a 2; set l", "{#a} {} write");
        Check.well("set {a b} 1; trace add variable {a b} write {lappend l}; set {a b} 2; set l", "{a b} {} write");
    }

    /** A WATCH of a name in the middle of a word: what stands around it goes on as it was. */
    private static void amongLetters() {
        String watch = "proc w args {list a [list b\"[list {c d}]$::v([list 1])\" $::v(1)]}; set v(1) z; set n 5; set o 6;"
            + "trace add variable n read w; trace add variable o read w; array set m {x5y A w6 B A B};";
        Check.well(watch + "list p q<$n>[list r]$o {*}\"$n $o\" s", "p q<5>r6 5 6 s");
        Check.well(watch + "list $m(x${n}y)-[list $m(w$o)]-$m($m(x${n}y))", "A-B-B");
        Check.well(watch + "expr {$n + $o * [list $n] + \"$n[list $o]\"}", "91");
        Check.well(watch + "subst {a$n[list $o]$m(x[list $n]y)b}", "a56Ab");
        Check.well(watch + "trace add variable m read w; list $m(x${n}y)[list $m(w$o)]$m($m(x${n}y))", "ABB");
    }
}
