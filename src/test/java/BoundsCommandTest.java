/** The boundary cases of part VII: the commands about names, lists and DICTIONARIES; and what part VIII tells of them. */
public final class BoundsCommandTest {
    private static final String MOST = "9223372036854775807";
    private static final String LEAST = "-9223372036854775808";

    public static void main(String[] args) {
        sets();
        increments();
        appends();
        unsets();
        globals();
        variables();
        upvarLevels();
        upvarNames();
        upvarItself();
        arrays();
        arrayUnset();
        infoLevels();
        infoCommands();
        traces();
        lindex();
        lset();
        ranges();
        linsert();
        lreplace();
        otherLists();
        joins();
        lassign();
        lsearch();
        lsort();
        foreach();
        dictGet();
        dictSet();
        dictUnset();
        dictIncr();
        dictOthers();
        refused();
        refusedByWatches();
        Check.end();
    }

    /** A command that is refused has done nothing of what stands behind that. */
    private static void refused() {
        Check.sentence("An ERROR is code 1 with a text as the answer.");
        String[][] due = {{"rename set list", "list [set a 1] [llength {a b}]", "1 2"}, {"rename set n::x", "set a 1", "1"},
            {"rename nn mm", "info commands mm", ""}, {"coroutine set yield", "set a 1", "1"}, {"coroutine n::c yield", "info commands c", ""},
            {"coroutine c", "info commands c", ""}, {"proc n::p {} {}", "info procs", ""}, {"proc p {a(} {}", "info procs", ""},
            {"proc p \\{ {}", "info procs", ""}, {"upvar 0 a ::b", "list [info exists a] [set b 1] [info exists a]", "0 1 0"},
            {"upvar 0 a b(c)", "list [info exists a] [info exists b]", "0 0"}, {"upvar 0 r::a b", "list [set b 1] [namespace exists r]", "1 0"},
            {"upvar 0 a a", "set a 1", "1"}, {"variable ::b 1", "info exists b", "0"}, {"variable b(c) 1", "info exists b", "0"},
            {"trace add variable a {} x", "trace info variable a", ""}, {"trace add variable a foo x", "trace info variable a", ""},
            {"trace add variable a(x) foo q", "info exists a", "0"}, {"trace add variable a \\{ x", "trace info variable a", ""},
            {"set v {b c}; lset v 2 x", "set v", "b c"}, {"set v {b c}; lset v x y", "set v", "b c"}, {"set v {b {c d}}; lset v 1 5 x", "set v", "b {c d}"},
            {"set v \\{; lappend v x", "set v", "{"}, {"set v x; incr v", "set v", "x"}, {"set v 5; incr v x", "set v", "5"},
            {"set v {a {b 1}}; dict unset v c b", "set v", "a {b 1}"}, {"set v {a x}; dict incr v a", "set v", "a x"},
            {"set v {a 1 b}; dict lappend v a x", "set v", "a 1 b"}, {"set v {a \\{}; dict lappend v a x", "set v", "a \\{"},
            {"lassign \\{ v", "info exists v", "0"}, {"foreach v \\{ {}", "info exists v", "0"}, {"foreach v 1 {} 2 {}", "info exists v", "0"},
            {"foreach v 1 w \\{ {}", "info exists v", "0"}, {"dict for {v w} a {}", "info exists v", "0"}, {"array set v {a 1 b}", "info exists v", "0"},
            {"set v 1; array set v {a 1}", "set v", "1"}, {"set v 1; set v(x) 2", "set v", "1"}, {"set v(x) 1; set v 2", "array get v", "x 1"},
            {"set v 1; unset v(x)", "set v", "1"}, {"namespace delete ::", "namespace exists ::", "1"},
            {"namespace eval r {set x 1; namespace delete ::r}", "set r::x", "1"}, {"set r::x 1", "namespace exists r", "0"},
            {"apply {{} {set ::v 1} r}", "list [info exists v] [namespace exists r]", "0 0"}, {"apply {a {set ::v 1}}", "info exists v", "0"},
            {"puts -x y", "list", ""}, {"yield x", "info coroutine", ""}, {"return -code x y", "list", ""}, {"uplevel 5 {set v 1}", "info exists v", "0"}};
        for (String[] row : due) {
            Check check = new Check();
            Check.due(row[0], check.evaluate(row[0]), 1);
            check.ends(0, row[1], row[2]);
        }
        Check.well("list [coroutine c eval {catch {proc c {} {}} e; yield $e}] [c 5]", "{is running: c} 5");
        Check.well("list [coroutine c eval {catch {rename c {}} e; yield $e}] [c 5]", "{is running: c} 5");
        Check.well("list [coroutine c eval {catch c e; yield $e}] [c 5]", "{is running: c} 5");
        Check.well("namespace eval n {}; list [coroutine n::c eval {catch {namespace delete n} e; yield $e}] [n::c 5]", "{in use: n} 5");
        Check.well("proc f {} {set a 1; catch {global a}; set a 2; info exists ::a}; f", "0");
    }

    private static void refusedByWatches() {
        Check.sentence("Else the act ends with the ERROR \"watch: V\" (what was written stays).");
        for (String act : new String[] {"set v", "incr v", "append v x", "append v", "lappend v x", "lappend v", "lset v 0 x", "dict set v 1 2",
            "dict unset v 1", "dict incr v 1", "dict lappend v 1 2", "expr {$v + [set ::done 1]}", "list $v [set ::done 1]"}) {
            Check check = new Check();
            check.ends(1, "set v 1; set w {error e;#}; trace add variable v read $w;" + act, "watch: e");
            check.ends(0, "trace remove variable v read $w; list $v [info exists done]", "1 0");
        }
        for (String act : new String[] {"set v 5", "incr v 5", "append v 5", "lappend v 5", "lset v 5", "dict set v 5 5", "dict incr v 5 5", "dict lappend v 5 5",
            "lassign {5 6} v z", "foreach {v z} {5 6} {set ::done 1}", "dict for {v z} {5 6} {set ::done 1}", "catch {list 5} v", "variable v 5 z 6"}) {
            Check check = new Check();
            check.ends(1, "trace add variable v write {error e;#};" + act, "watch: e");
            check.ends(0, "list [string index $v 0] [info exists z] [info exists done]", "5 0 0");
        }
    }

    private static void sets() {
        Check.sentence("set N [V]: reads, or writes V. These four answer the value that it has then, by no WATCH (\"no name: N\" if it has no VALUE).");
        Check.well("set a {}", "");
        Check.well("set a 1; set a", "1");
        Check.well("set {} 1; set {}", "1");
        Check.well("trace add variable a {read write} {incr ::n;#}; set a 1; set n", "1");
        Check.well("trace add variable a write {set a 7;#}; list [set a 1] [incr a] [append a x] [lappend a y]", "7 7 7 7");
        Check.error("trace add variable a write {unset a;#}; incr a", "no name: a");
        Check.error("trace add variable a write {unset a; set a(x) 1;#}; lappend a 1", "no name: a");
    }

    private static void increments() {
        Check.sentence("incr N [I]: its value and I (1 without) is written: what isn't there counts as 0, else it is read; first it, then I must be"
            + " INTEGERS; \"too great\".");
        Check.well("incr a", "1");
        Check.well("incr a 0", "0");
        Check.well("incr a " + MOST, MOST);
        Check.well("incr a " + LEAST, LEAST);
        Check.well("set a 9223372036854775806; incr a", MOST);
        Check.error("set a " + MOST + "; incr a", "too great");
        Check.well("set a " + MOST + "; incr a -1", "9223372036854775806");
        Check.well("set a -9223372036854775807; incr a -1", LEAST);
        Check.error("set a " + LEAST + "; incr a -1", "too great");
        Check.well("set a " + LEAST + "; incr a " + MOST, "-1");
        Check.error("set a " + MOST + "; incr a " + MOST, "too great");
        Check.error("set a " + LEAST + "; incr a " + LEAST, "too great");
        Check.well("set a " + MOST + "; catch {incr a}; set a", MOST);
        Check.well("set a 0x1F; incr a", "32");
        Check.well("set a 5; incr a 0x10", "21");
        Check.error("set a {}; incr a", "no number: ");
        Check.error("set a x; incr a y", "no number: x");
        Check.error("set a 1; incr a y", "no number: y");
        Check.error("incr a y", "no number: y");
        Check.error("incr a 9223372036854775808", "no number: 9223372036854775808");
        Check.well("catch {incr a y}; info exists a", "0");
        Check.well("trace add variable a read {incr ::n;#}; incr a; list [info exists n] [incr a] $n", "0 2 1");
    }

    private static void appends() {
        Check.sentence("append N V ..: its value (none if it isn't there; else it is read) with V .. behind is written; without V it is read alone."
            + " lappend likewise.");
        Check.well("append a x", "x");
        Check.well("append a {}", "");
        Check.well("append a x {} y", "xy");
        Check.well("set a x; append a", "x");
        Check.error("append a", "no name: a");
        Check.well("lappend a x", "x");
        Check.well("lappend a {}", "{}");
        Check.well("lappend a {} {x y} {#}", "{} {x y} #");
        Check.well("lappend a #", "{#}");
        Check.error("lappend a", "no name: a");
        Check.sentence("lappend N, append N without V: read, answered as it is.");
        Check.well("set a { x  y }; lappend a", " x  y ");
        Check.well("set a \\{; lappend a", "{");
        Check.error("set a \\{; lappend a x", "missing brace");
        Check.well("set a { x  y }; lappend a z", "x y z");
        Check.well("set a {}; lappend a x", "x");
        for (String command : new String[] {"append", "lappend"}) {
            Check.well("trace add variable a {read write} {lappend ::l};" + command + " a x; set l", "a {} write");
            Check.well("set a x; trace add variable a {read write} {lappend ::l};" + command + " a x; set l", "a {} read a {} write");
            Check.well("set a x; trace add variable a {read write} {lappend ::l};" + command + " a; set l", "a {} read");
        }
    }

    private static void unsets() {
        Check.sentence("unset [-nocomplain] N ..: in turn; what isn't there: \"no name: N\", with -nocomplain nothing.");
        Check.well("unset", "");
        Check.well("unset -nocomplain", "");
        Check.error("unset a", "no name: a");
        Check.well("unset -nocomplain a", "");
        Check.well("set a 1; unset a; info exists a", "0");
        Check.error("set a 1; unset a a", "no name: a");
        Check.well("set a 1; unset -nocomplain a a b; info exists a", "0");
        Check.well("set a 1; set c 1; catch {unset a b c}; list [info exists a] [info exists c]", "0 1");
        Check.error("set a 1; unset a -nocomplain", "no name: -nocomplain");
        Check.well("set -nocomplain 1; unset -nocomplain -nocomplain; info exists -nocomplain", "0");
        Check.well("set -nocomplain 1; unset -nocomplain; info exists -nocomplain", "1");
        Check.error("unset -nocomplai", "no name: -nocomplai");
        Check.well("set a(x) 1; unset a(x); list [info exists a(x)] [array exists a]", "0 1");
        Check.error("set a(x) 1; unset a(y)", "no name: a(y)");
    }

    private static void globals() {
        Check.sentence("global N ..: at a procedure's level N becomes a LINK to :: 's N (N without :: and ( ); else \"bad name: N\"); else nothing.");
        Check.well("global", "");
        Check.well("global a ::b c(d)", "");
        Check.well("namespace eval r {global a; set a 1}; info exists a", "0");
        Check.well("namespace eval r {global ::b c(d)}", "");
        Check.well("proc f {} {global; global a; set a 1}; f; set a", "1");
        Check.well("namespace eval r {proc f {} {global a; set a 1}}; r::f; list $a [info exists r::a]", "1 0");
        Check.error("proc f {} {global ::a}; f", "bad name: ::a");
        Check.error("proc f {} {global a::b}; f", "bad name: a::b");
        Check.error("proc f {} {global a(b)}; f", "bad name: a(b)");
        Check.error("proc f {} {global a()}; f", "bad name: a()");
        Check.well("proc f {} {global a:b; set a:b 1}; f; set a:b", "1");
        Check.error("proc f {} {set a 1; global a}; f", "is there: a");
        Check.error("proc f {} {set a(x) 1; global a}; f", "is there: a");
        Check.error("proc f a {global a}; f 1", "is there: a");
        Check.well("proc f {} {global a; global a; set a 1}; f; set a", "1");
        Check.well("proc f {} {upvar #0 b a; global a; set a 1}; f; list $a [info exists b]", "1 0");
        Check.well("proc f {} {catch {global a ::b c}; set a 1; set c 1}; f; list [info exists a] [info exists c]", "1 0");
        Check.well("apply {{} {global a; set a 1}}; set a", "1");
        Check.well("set global 1; proc f {} {global a; info exists global}; f", "0");
    }

    private static void variables() {
        Check.sentence("variable N [V] ..: of the room at hand: at a procedure's level N becomes a LINK to it (N as for global); then V is written, if"
            + " there is one. variable N: a \"bad name\" at all levels.");
        Check.well("variable a; info exists a", "0");
        Check.well("variable a 1; set a", "1");
        Check.well("variable a 1 b 2 c; list $a $b [info exists c] [info exists 1] [info exists 2]", "1 2 0 0 0");
        Check.well("variable a ::x b (y); list $a $b", "::x (y)");
        Check.well("namespace eval r {variable a 1}; list $r::a [info exists a]", "1 0");
        Check.well("namespace eval r {proc f {} {variable a 1; variable b; set b 2}}; r::f; list $r::a $r::b", "1 2");
        Check.well("proc f {} {variable a 1}; f; set a", "1");
        for (String name : new String[] {"::a", "a::b", "a(b)", "a()"}) {
            Check.error("variable " + name, "bad name: " + name);
            Check.error("variable " + name + " 1", "bad name: " + name);
            Check.error("proc f {} {variable " + name + " 1}; f", "bad name: " + name);
            Check.error("namespace eval r {variable " + name + "}", "bad name: " + name);
        }
        Check.error("proc f {} {set a 1; variable a}; f", "is there: a");
        Check.well("set a 1; variable a; set a", "1");
        Check.well("set a 1; variable a 2; set a", "2");
        Check.error("set a(x) 1; variable a 2", "is array: a");
        Check.well("catch {variable a 1 ::b 2 c 3}; list [info exists a] [info exists c]", "1 0");
    }

    private static void upvarLevels() {
        Check.sentence("L: digits, so many levels below the one at hand (1 without), or # and digits, that level: else, or if there is none such,"
            + " \"no level: L\" (1 where it isn't told).");
        String two = "set v 0; proc f {} {set v 1; g}; proc g {} {set v 2; ";
        String[][] due = {{"", "1"}, {"0", "2"}, {"1", "1"}, {"2", "0"}, {"00", "2"}, {"01", "1"}, {"#0", "0"}, {"#1", "1"}, {"#2", "2"}, {"#02", "2"}};
        for (String[] pair : due) {
            Check.well(two + "upvar " + pair[0] + " v m; set m}; f", pair[1]);
            Check.well(two + "uplevel " + pair[0] + " {set v}}; f", pair[1]);
        }
        for (String level : new String[] {"3", "#3", "99999999999999999999", "#99999999999999999999", "4294967296", "4294967297", "#4294967296",
            "18446744073709551616", "18446744073709551617", "#18446744073709551616", "9223372036854775808"}) {
            Check.error(two + "upvar " + level + " v m}; f", "no level: " + level);
            Check.error(two + "uplevel " + level + " {set v}}; f", "no level: " + level);
        }
        for (String level : new String[] {"-1", "+1", "#", "#-1", "x", "1x", "{}", "0x1", "#x", "1.0", "##0", "{ 1}"}) {
            Check.error(two + "upvar " + level + " v m}; f", "no level: " + level.replace("{", "").replace("}", ""));
        }
        Check.error("upvar a b", "no level: 1");
        Check.error("uplevel {list a}", "no level: 1");
        Check.error("upvar 1 a b", "no level: 1");
        Check.error("upvar #1 a b", "no level: #1");
        Check.well("upvar 0 a b; set b 1; set a", "1");
        Check.well("upvar #0 a b; set b 1; set a", "1");
        Check.well("namespace eval r {upvar 1 a b; set b 1}; set a", "1");
        Check.error("namespace eval r {upvar 2 a b}", "no level: 2");
        Check.sentence("uplevel [L] S ..: (L if it is digits, or # and digits, and there are more words).");
        Check.well("proc f {} {uplevel}; f", "");
        Check.error("uplevel", "no level: 1");
        Check.error("uplevel 0", "no level: 1");
        Check.well("proc f {} {catch {uplevel 0} e; set e}; f", "no command: 0");
        Check.well("proc f {} {catch {uplevel #0} e; set e}; f", "");
        Check.well("proc f {} {catch {uplevel -1 x} e; set e}; f", "no command: -1");
        Check.well("proc f {} {catch {uplevel 1x y} e; set e}; f", "no command: 1x");
        Check.well("proc f {} {catch {uplevel a# y} e; set e}; f", "no command: a#");
        Check.well("proc f {} {catch {uplevel {} {list y}} e; set e}; f", "y");
        Check.sentence("levels above are as not there meanwhile");
        Check.well("proc f {} {g}; proc g {} {uplevel 1 {list [info level] [catch {info level 2}]}}; f", "1 1");
        Check.well("proc f {} {g}; proc g {} {uplevel #0 {catch {upvar 1 a b} e; list [info level] $e}}; f", "0 {no level: 1}");
        Check.well("proc f {} {g}; proc g {} {uplevel 1 {}; info level}; f", "2");
        Check.well("proc f {} {g}; proc g {} {uplevel 1 h}; proc h {} {list [info level] [info level 2]}; f", "2 h");
    }

    private static void upvarNames() {
        Check.sentence("M has no :: nor ( ) , and a room's is no LINK to a procedure's: else \"bad name: M\"; if M is there and no LINK: \"is there: M\".");
        Check.error("upvar 0 a ::b", "bad name: ::b");
        Check.error("upvar 0 a b::c", "bad name: b::c");
        Check.error("upvar 0 a b(c)", "bad name: b(c)");
        Check.error("upvar 0 a b()", "bad name: b()");
        Check.well("upvar 0 a b:c; set b:c 1; set a", "1");
        Check.error("proc f {} {namespace eval r {upvar 1 a b}}; f", "bad name: b");
        Check.error("proc f {} {namespace eval r {upvar 1 a(x) b}}; f", "bad name: b");
        Check.well("proc f {} {namespace eval r {upvar #0 a b; set b 1}}; f; set a", "1");
        Check.well("proc f {} {upvar #0 a b; namespace eval r {upvar 1 b c; set c 1}}; f; set a", "1");
        Check.error("proc f {} {uplevel #0 {upvar 0 a b}; set x 1; uplevel 1 {namespace eval r {upvar 1 ::b c}}; namespace eval r {upvar 1 x d}}; f", "bad name: d");
        Check.error("set b 1; upvar 0 a b", "is there: b");
        Check.error("set b(x) 1; upvar 0 a b", "is there: b");
        Check.well("set b 1; unset b; upvar 0 a b; set b 2; set a", "2");
        Check.well("upvar 0 a b; upvar 0 c b; set b 1; list [info exists a] [info exists c]", "0 1");
        Check.well("set a 1; upvar 0 a b; upvar 0 c b; info exists b", "0");
        Check.sentence("M of the level at hand becomes a LINK to what N means at L (an ELEMENT: to that of the array's variable; nothing comes by it)."
            + " What N means is asked ahead of M (\"no array: N\" through a LINK to an ELEMENT).");
        Check.well("upvar 0 a b; list [info exists a] [info exists b]", "0 0");
        Check.well("upvar 0 a(x) b; list [info exists a] [array exists a]", "0 0");
        Check.error("upvar 0 r::a ::b", "no room: r");
        Check.error("upvar 0 a(x) e; upvar 0 e(y) ::b", "no array: e");
        Check.well("set a 1; upvar 0 a(x) b; list [catch {set b} e] $e", "1 {no array: b}");
        Check.well("set v 0; proc f {} {upvar v(1) m; info exists m}; f", "0");
        Check.well("upvar 0 a b c d; set b 1; set d 2; list $a $c", "1 2");
        Check.well("catch {upvar 0 a b c ::d e f}; set b 1; set f 2; list [info exists a] [info exists e]", "1 0");
    }

    private static void upvarItself() {
        Check.sentence("If it would lead to itself or an ELEMENT of itself: \"is itself: M\".");
        Check.error("upvar 0 a a", "is itself: a");
        Check.error("upvar 0 a(x) a", "is itself: a");
        Check.error("upvar 0 a b; upvar 0 b a", "is itself: a");
        Check.error("upvar 0 a b; upvar 0 b(x) a", "is itself: a");
        Check.error("upvar 0 a b; upvar 0 b c; upvar 0 c a", "is itself: a");
        Check.error("upvar 0 a(x) b; upvar 0 b a", "is itself: a");
        Check.error("upvar 0 ::a a", "is itself: a");
        Check.error("upvar #0 a a", "is itself: a");
        Check.well("upvar 0 a b; upvar 0 a b; set b 1; set a", "1");
        Check.well("upvar 0 a b; upvar 0 b b; set b 1; set a", "1");
        Check.well("proc f {} {upvar 1 a a; set a 1}; f; set a", "1");
        Check.well("proc f {} {upvar 0 ::a a; set a 1}; f; set a", "1");
        Check.error("set a 1; upvar 0 a a", "is there: a");
        Check.well("upvar 0 a(x) b; upvar 0 a(y) c; set b 1; set c 2; array get a", "x 1 y 2");
    }

    private static void arrays() {
        Check.sentence("array: exists N (1 for an ARRAY). set N D: its ELEMENTS are written in order, as they stand (without any N becomes an ARRAY)."
            + " get N [P], names N [P]; size N: without WATCHES; no ARRAY has none.");
        Check.well("list [array exists a] [array set a {}] [array exists a] [array size a]", "0 {} 1 0");
        Check.well("array set a {x 1}; list [array exists a] [array size a] [array set a {}] [array get a]", "1 1 {} {x 1}");
        Check.well("set a 1; list [array exists a] [array size a] [array get a] [array names a]", "0 0 {} {}");
        Check.well("trace add variable a write {lappend ::l}; array set a {x 1 y 2 x 3}; list $l [array get a]",
            "{a x write a y write a x write} {x 3 y 2}");
        Check.well("array set a {x 1 y 2}; trace add variable a read {error e;#}; list [array get a] [array names a] [array size a]", "{x 1 y 2} {x y} 2");
        Check.well("array set a {xa 1 y 2 xb 3}; list [array get a x*] [array names a x?] [array get a {}] [array names a *] [array names a q]",
            "{xa 1 xb 3} {xa xb} {} {xa y xb} {}");
        for (String[] pair : new String[][] {{"exists", "1"}, {"size", "1"}, {"get", "x 1"}, {"names", "x"}}) {
            Check.well("set a(x) 1; set b 2; array " + pair[0] + " a", pair[1]);
        }
        Check.well("array set a {{} 1 {b c} {d e}}; list [array get a] [array names a {}]", "{{} 1 {b c} {d e}} {{}}");
        Check.error("array set a {x 1 y}", "no dictionary");
        Check.well("catch {array set a {x 1 y}}; info exists a", "0");
        Check.error("trace add variable a(y) write {error e;#}; array set a {x 1 y 2 z 3}", "watch: e");
        Check.well("trace add variable a(y) write {error e;#}; catch {array set a {x 1 y 2 z 3}}; array names a", "x y");
    }

    private static void arrayUnset() {
        Check.sentence("unset N [P]: as unset N, if it is an ARRAY; with P the ELEMENTS that fit P at first, in order, those that are there still.");
        Check.well("array unset a", "");
        Check.well("set a 1; array unset a; set a", "1");
        Check.well("set a 1; array unset a *; set a", "1");
        Check.well("array set a {x 1}; array unset a; info exists a", "0");
        Check.well("array set a {}; array unset a; info exists a", "0");
        Check.well("array set a {x 1 y 2}; array unset a *; list [array exists a] [array size a]", "1 0");
        Check.well("array set a {xa 1 y 2 xb 3}; array unset a x*; array get a", "y 2");
        Check.well("array set a {x 1}; array unset a q; array get a", "x 1");
        Check.well("array set a {x 1 y 2 z 3}; trace add variable a unset {lappend ::l}; array unset a {[xz]}; set l", "a x unset a z unset");
        Check.well("array set a {x 1 y 2 z 3}; trace add variable a(x) unset {unset a(y);#}; trace add variable a(y) unset {lappend ::l}; array unset a *;"
            + " list $l [array size a]", "{a y unset} 0");
        Check.well("array set a {x 1 y 2}; trace add variable a(x) unset {set a(x) 5;#}; array unset a *; array get a", "x 5");
    }

    private static void infoLevels() {
        Check.sentence("level I: the words with which level I, 1 .. that one, was called, as a list (\"no level: I\", also of what is no INTEGER).");
        Check.error("info level 0", "no level: 0");
        Check.error("info level 1", "no level: 1");
        String two = "proc f {a b} {g}; proc g {} {";
        Check.well(two + "list [info level 1] [info level 2]}; f {x y} {}", "{f {x y} {}} g");
        for (String level : new String[] {"0", "-1", "3", "x", "{}", "9223372036854775808", "4294967297", "#1", "1.0"}) {
            Check.error(two + "info level " + level + "}; f 1 2", "no level: " + level.replace("{}", ""));
        }
        Check.well(two + "list [info level +1] [info level 0x2]}; f 1 2", "{f 1 2} g");
        Check.well("namespace eval r {info level 1}", "namespace eval r {info level 1}");
        Check.well("apply {a {info level 1}} x", "apply {a {info level 1}} x");
    }

    private static void infoCommands() {
        Check.sentence("commands [P], procs [P]: the TAILS of commands (procedures) of the room at hand that fit P, in the order in which they came; a"
            + " renamed one comes anew.");
        Check.well("info procs", "");
        Check.well("proc b {} {}; proc a {} {}; list [info procs] [info procs a] [info procs x] [info procs *]", "{b a} a {} {b a}");
        Check.well("proc b {} {}; proc a {} {}; rename b c; rename c b; info procs", "a b");
        Check.well("proc b {} {}; proc a {} {}; proc b {} {list}; info procs", "b a");
        Check.well("proc set args {}; info commands {[si][en][tcf]*}", "set incr info");
        Check.well("rename set mine; info commands {[ms][ei]*}", "mine");
        Check.well("namespace eval r {proc p {} {}; list [info commands] [info procs] [info commands set]}", "p p {}");
        Check.well("coroutine c yield; list [info commands c] [info procs c]", "c {}");
        Check.sentence("args N, body N: of a procedure: names of its formals; its body (\"no procedure: N\").");
        Check.well("proc f {} {}; list [info args f] [info body f]", "{} {}");
        Check.well("proc f {a {b 1} args} { x }; list [info args f] [info body f]", "{a b args} { x }");
        for (String name : new String[] {"nn", "set", "{}", "r::p"}) {
            Check.error("info args " + name, "no procedure: " + name.replace("{}", ""));
            Check.error("info body " + name, "no procedure: " + name.replace("{}", ""));
        }
        Check.error("coroutine c yield; info body c", "no procedure: c");
        Check.well("proc f a b; namespace eval r {list [info args f] [info body ::f]}", "a b");
        Check.sentence("coroutine: FULL name of the one that is running at hand; none: no letters.");
        Check.well("info coroutine", "");
        Check.well("coroutine c info coroutine", "::c");
        Check.well("namespace eval a {namespace eval b {}; coroutine b::c info coroutine}", "::a::b::c");
    }

    private static void traces() {
        Check.sentence("O a list of read, write, unset, at least one (\"bad ops: O\").");
        for (String ops : new String[] {"{}", "{ }", "foo", "{read foo}", "Read", "rea", "{read write unset x}", "array"}) {
            Check.error("trace add variable a " + ops + " x", "bad ops: " + ops.replace("{", "").replace("}", ""));
            Check.error("trace remove variable a " + ops + " x", "bad ops: " + ops.replace("{", "").replace("}", ""));
        }
        for (String[] ops : new String[][] {{"read", "read"}, {"{unset}", "unset"}, {"{write read}", "{read write}"}, {"{unset write read}",
            "{read write unset}"}, {"{read read}", "read"}}) {
            Check.well("trace add variable a " + ops[0] + " x; trace info variable a", "{" + ops[1] + " x}");
        }
        Check.sentence("a WATCH more (what isn't there stays so; of an ELEMENT the array comes).");
        Check.well("trace add variable a read x; list [info exists a] [array exists a]", "0 0");
        Check.well("trace add variable a(x) read x; list [info exists a] [array exists a] [array size a] [info exists a(x)]", "1 1 0 0");
        Check.sentence("remove variable N O V: the latest WATCH with these and V is no more.");
        String both = "trace add variable a {read write} x; trace add variable a read x; trace add variable a {write read} x;";
        Check.well(both + "trace info variable a", "{{read write} x} {read x} {{read write} x}");
        Check.well(both + "trace remove variable a {write read} x; trace info variable a", "{read x} {{read write} x}");
        Check.well(both + "trace remove variable a read x; trace info variable a", "{{read write} x} {{read write} x}");
        Check.well(both + "trace remove variable a write x; trace remove variable a read y; llength [trace info variable a]", "3");
        Check.well(both + "unset -nocomplain a; llength [trace info variable a]", "3");
        Check.well(both + "trace remove variable a read x; trace remove variable a read x; llength [trace info variable a]", "2");
        Check.sentence("trace remove, info of what isn't there (..): nothing, none.");
        Check.well("list [trace info variable a] [trace remove variable a read x] [trace info variable a(x)] [info exists a]", "{} {} {} 0");
        Check.well("set a 1; list [trace info variable a(x)] [trace remove variable a(x) read x]", "{} {}");
    }

    private static void lindex() {
        Check.sentence("lindex L [I ..]: element I of L, of that element I, .. ; outside: no letters.");
        Check.well("lindex {a b}", "a b");
        Check.well("lindex { a  b }", " a  b ");
        Check.well("lindex {a b} 0", "a");
        Check.well("lindex {a b} 1", "b");
        Check.well("lindex {a b} 2", "");
        Check.well("lindex {a b} -1", "");
        Check.well("lindex {a {b c}} 1 1", "c");
        Check.well("lindex {a {b c}} 1 2", "");
        Check.well("lindex {a {b c}} 2 0", "");
        Check.well("lindex {a {b c}} 2 0 0", "");
        Check.well("lindex a 0 0 0 0", "a");
        Check.error("lindex {a {b c}} 1 x", "bad index: x");
        Check.error("lindex {a \\{} 1 0", "missing brace");
        Check.well("lindex {a \\{} 0 0", "a");
    }

    private static void lset() {
        Check.sentence("lset N [I ..] V: .. outside: \"outside: I\"; without I as set N V; answers as set.");
        Check.well("lset a x", "x");
        Check.well("set a {b c}; lset a 0 x", "x c");
        Check.well("set a {b c}; lset a end x", "b x");
        Check.error("set a {b c}; lset a 2 x", "outside: 2");
        Check.error("set a {b c}; lset a end+1 x", "outside: end+1");
        Check.error("set a {b c}; lset a -1 x", "outside: -1");
        Check.error("set a {b c}; lset a end-2 x", "outside: end-2");
        Check.error("set a {}; lset a 0 x", "outside: 0");
        Check.error("set a {}; lset a end x", "outside: end");
        Check.error("set a {b {c d}}; lset a 1 2 x", "outside: 2");
        Check.error("set a {b {c d}}; lset a 2 0 x", "outside: 2");
        Check.well("set a {b {c d}}; lset a 1 1 {x y}", "b {c {x y}}");
        Check.well("set a b; lset a 0 0 0 x", "x");
        Check.well("set a {b c}; catch {lset a 2 x}; set a", "b c");
        Check.well("set a { b   c }; lset a 0 {}", "{} c");
        Check.error("set a {b c}; lset a x y", "bad index: x");
        Check.error("lset a 0 x", "no name: a");
        Check.well("trace add variable a {read write} {lappend ::l}; lset a x; set l", "a {} write");
        Check.well("set a b; trace add variable a {read write} {lappend ::l}; lset a 0 x; set l", "a {} read a {} write");
    }

    private static void ranges() {
        Check.sentence("lrange, string range: A, B as of lreplace (less than 0 or beyond are taken as far as there are elements).");
        String[][] due = {{"0 end", "a b c"}, {"0 2", "a b c"}, {"0 3", "a b c"}, {"-1 3", "a b c"}, {"1 1", "b"}, {"1 0", ""}, {"2 1", ""}, {"2 2", "c"},
            {"3 3", ""}, {"3 9", ""}, {"-5 -1", ""}, {"-5 0", "a"}, {"end end", "c"}, {"end+1 end+5", ""}, {"end-1 end", "b c"}, {"end-5 end-2", "a"},
            {LEAST + " " + MOST, "a b c"}, {MOST + " " + LEAST, ""}, {MOST + " " + MOST, ""}, {"end-" + MOST + " end+" + MOST, "a b c"},
            {"4294967296 4294967297", ""}, {"0 4294967296", "a b c"}};
        for (String[] pair : due) {
            Check.well("lrange {a b c} " + pair[0], pair[1]);
            Check.well("string range abc " + pair[0], pair[1].replace(" ", ""));
        }
        Check.well("lrange {} 0 end", "");
        Check.well("string range {} 0 end", "");
        Check.well("lrange { a  {b c} } 0 end", "a {b c}");
    }

    private static void linsert() {
        Check.sentence("linsert L I V ..: I an INDEX of one thing more than there are (end: behind all): ahead of element I, behind all if it isn't less"
            + " than there are, ahead of all if it is below 0.");
        String[][] due = {{"0", "x a b"}, {"1", "a x b"}, {"2", "a b x"}, {"3", "a b x"}, {"-1", "x a b"}, {"end", "a b x"}, {"end-0", "a b x"},
            {"end-1", "a x b"}, {"end-2", "x a b"}, {"end-3", "x a b"}, {"end+1", "a b x"}, {MOST, "a b x"}, {LEAST, "x a b"}, {"end+" + MOST, "a b x"},
            {"end-" + MOST, "x a b"}, {"4294967296", "a b x"}, {"-4294967295", "x a b"}};
        for (String[] pair : due) {
            Check.well("linsert {a b} " + pair[0] + " x", pair[1]);
        }
        Check.well("linsert {} 0 x", "x");
        Check.well("linsert {} end x", "x");
        Check.well("linsert {} 5", "");
        Check.well("linsert { a  b } 1", "a b");
        Check.well("linsert {a b} 1 x {y z} {}", "a x {y z} {} b");
    }

    private static void lreplace() {
        Check.sentence("lreplace L A B V ..: elements A to B go, V .. come there (A, B less than 0 or beyond are taken as far as there are elements; none"
            + " go if B is less than A).");
        String[][] due = {{"0 0", "x b c"}, {"1 1", "a x c"}, {"2 2", "a b x"}, {"0 2", "x"}, {"0 5", "x"}, {"-5 5", "x"}, {"1 0", "a x b c"}, {"2 0", "a b x c"},
            {"0 -1", "x a b c"}, {"-1 -1", "x a b c"}, {"-5 -3", "x a b c"}, {"-5 0", "x b c"}, {"3 3", "a b c x"}, {"3 2", "a b c x"}, {"5 9", "a b c x"},
            {"5 1", "a b c x"}, {"2 9", "a b x"}, {"end end", "a b x"}, {"end+1 end+1", "a b c x"}, {"end-1 end", "a x"}, {MOST + " " + MOST, "a b c x"},
            {LEAST + " " + LEAST, "x a b c"}, {LEAST + " " + MOST, "x"}, {MOST + " " + LEAST, "a b c x"}, {"0 end-5", "x a b c"}, {"1 -5", "a x b c"}};
        for (String[] pair : due) {
            Check.well("lreplace {a b c} " + pair[0] + " x", pair[1]);
        }
        Check.well("lreplace {} 0 0 x", "x");
        Check.well("lreplace {} 0 0", "");
        Check.well("lreplace {a b c} 1 1", "a c");
        Check.well("lreplace {a b c} 0 end", "");
        Check.well("lreplace {a b c} 1 1 x {y z}", "a x {y z} c");
    }

    private static void otherLists() {
        Check.sentence("list V ..; llength L; lreverse L; lrepeat I V .. (I below 0: \"bad count: I\"); concat V ..: each without WHITE at both ends, those"
            + " with letters, a BLANK between.");
        Check.well("list", "");
        Check.well("list {}", "{}");
        Check.well("llength {}", "0");
        Check.well("llength {{}}", "1");
        Check.well("lreverse {}", "");
        Check.well("lreverse a", "a");
        Check.well("lreverse { a  {b c} }", "{b c} a");
        Check.well("lreverse {a b c d}", "d c b a");
        Check.well("lreverse {a b c d e f g}", "g f e d c b a");
        Check.well("lreverse {a #b}", "{#b} a");
        Check.well("lrepeat 0 a", "");
        Check.well("lrepeat 1 a", "a");
        Check.well("lrepeat 2 a {b c}", "a {b c} a {b c}");
        Check.well("lrepeat 5", "");
        Check.well("lrepeat " + MOST, "");
        Check.well("lrepeat -0 a", "");
        Check.well("lrepeat 2 #", "{#} #");
        Check.error("lrepeat -1 a", "bad count: -1");
        Check.error("lrepeat -1", "bad count: -1");
        Check.error("lrepeat " + LEAST + " a", "bad count: " + LEAST);
        Check.error("lrepeat -0x1 a", "bad count: -0x1");
        Check.error("lrepeat {} a", "no number: ");
        Check.error("lrepeat 9223372036854775808 a", "no number: 9223372036854775808");
        Check.limit("lrepeat " + MOST + " a");
        Check.limit("lrepeat " + MOST + " {} {}");
        Check.well("concat", "");
        Check.well("concat {}", "");
        Check.well("concat { } {} \"\\t\\n\\v\\f\\r\"", "");
        Check.well("concat \" \\t\\n\\v\\f\\ra\\r\\f\\v\\n\\t \" b", "a b");
        Check.well("concat \"\\x08a\\x0e\" b", "\ba\u000e b");
        Check.well("concat {a  b} {} { c } {{d e}}", "a  b c {d e}");
        Check.well("concat \\{ a", "{ a");
    }

    private static void joins() {
        Check.sentence("join L [S]: elements with S (BLANK) between.");
        Check.well("join {}", "");
        Check.well("join a", "a");
        Check.well("join {a {b c} {}}", "a b c ");
        Check.well("join {a b c} {}", "abc");
        Check.well("join {a b c} xy", "axybxyc");
        Check.well("join {} x", "");
        Check.well("join {{}} x", "");
        Check.well("join {{} {}} x", "x");
        Check.sentence("split T [C]: parts between letters that are in C (WHITE), as a list; C without letters: each letter. split of no letters: none.");
        Check.well("split {}", "");
        Check.well("split {} ,", "");
        Check.well("split {} {}", "");
        Check.well("split a", "a");
        Check.well("split { }", "{} {}");
        Check.well("split {a b}", "a b");
        Check.well("split {a  b}", "a {} b");
        Check.well("split \"a\\tb\\nc\\vd\\fe\\rf g\"", "a b c d e f g");
        Check.well("split \"a\\x08b\\x0ec\"", "a\bb\u000ec");
        Check.well("split , ,", "{} {}");
        Check.well("split a,b. ,.", "a b {}");
        Check.well("split a, xyz,", "a {}");
        Check.well("split {a b} ,", "{a b}");
        Check.well("split abc {}", "a b c");
        Check.well("split {a b} {}", "a { } b");
        Check.well("split \"\\{a\" {}", "\\{ a");
        Check.well("split #,# ,", "{#} #");
        Check.well("split a\\xff\\x00b \\xff\\x00", "a {} b");
    }

    private static void lassign() {
        Check.sentence("lassign L N ..: N .. are written in turn, elements or no letters; answers the other elements as a list.");
        Check.well("lassign {}", "");
        Check.well("lassign { a  b }", "a b");
        Check.well("lassign {} a; set a", "");
        Check.well("list [lassign {1 2} a b] $a $b", "{} 1 2");
        Check.well("list [lassign {1 2} a b c] $a $b $c", "{} 1 2 {}");
        Check.well("list [lassign {1 2 {3 4}} a] $a", "{2 {3 4}} 1");
        Check.well("list [lassign {1 2} a a] $a", "{} 2");
        Check.error("set b(x) 1; lassign {1 2 3} a b c", "is array: b");
        Check.well("set b(x) 1; catch {lassign {1 2 3} a b c}; list [info exists a] [info exists c]", "1 0");
    }

    private static void lsearch() {
        Check.sentence("lsearch [-exact | -glob] L P: the first element that is P, or fits it (without: fits); -1.");
        Check.well("lsearch {a b a} a", "0");
        Check.well("lsearch {a b a} b", "1");
        Check.well("lsearch {a b a} c", "-1");
        Check.well("lsearch {} a", "-1");
        Check.well("lsearch {} *", "-1");
        Check.well("lsearch {{}} {}", "0");
        Check.well("lsearch {a b*} b*", "1");
        Check.well("lsearch {a bc b*} b*", "1");
        Check.well("lsearch -exact {a bc b*} b*", "2");
        Check.well("lsearch -glob {a bc b*} b*", "1");
        Check.well("lsearch -exact {a b} B", "-1");
        Check.well("lsearch -exact {} {}", "-1");
        Check.well("lsearch -exact -exact", "0");
        Check.well("lsearch -exact -e*", "0");
        Check.well("lsearch -glob -exact", "-1");
    }

    private static void lsort() {
        Check.sentence("lsort [-integer] [-decreasing] [-unique] L: by letters, or INTEGERS (\"no number: V\", the first), equal ones as they stand; unique:"
            + " of equal ones (by that) the last.");
        Check.well("lsort {}", "");
        Check.well("lsort a", "a");
        Check.well("lsort {b a}", "a b");
        Check.well("lsort {10 9 1}", "1 10 9");
        Check.well("lsort -integer {10 9 1}", "1 9 10");
        Check.well("lsort {b ab {} a}", "{} a ab b");
        Check.well("lsort {a B \\xff \\x7f}", "B a \u007f \u00ff");
        Check.well("lsort -integer {" + MOST + " " + LEAST + " 0 -1}", LEAST + " -1 0 " + MOST);
        Check.well("lsort -integer -decreasing {" + LEAST + " " + MOST + " 0}", MOST + " 0 " + LEAST);
        Check.well("lsort -integer {0x1 1 01 0 +1}", "0 0x1 1 01 +1");
        Check.well("lsort -integer -decreasing {0x1 1 01 0 +1}", "0x1 1 01 +1 0");
        Check.well("lsort -integer -unique {0x1 1 01 0 +1}", "0 +1");
        Check.well("lsort -unique -integer -decreasing {0x1 1 01 0 +1}", "+1 0");
        Check.well("lsort -unique {a b a}", "a b");
        Check.well("lsort -unique {1 01}", "01 1");
        Check.well("lsort -integer -unique {}", "");
        Check.error("lsort -integer {1 x {} y}", "no number: x");
        Check.error("lsort -integer {9223372036854775808}", "no number: 9223372036854775808");
        Check.error("lsort -integer x", "no number: x");
        Check.well("lsort -integer 1", "1");
        Check.well("lsort {#b a}", "{#b} a");
        Check.well("lsort -unique", "-unique");
        Check.well("list [lsort -integer {10 9}] [lsort {10 9}] [lsort -integer {10 9}]", "{9 10} {10 9} {9 10}");
        Check.well("list [lsort -decreasing {a b}] [lsort {b a}] [lsort -decreasing {a b}]", "{b a} {a b} {b a}");
        Check.well("list [lsort -unique {a a}] [lsort {a a}] [lsort -unique {a a}]", "a {a a} a");
    }

    private static void foreach() {
        Check.sentence("foreach N L .. S: N lists of names, not empty (\"no names\"; looked at first, then the lists L): as many rounds as the longest L"
            + " gives: no letters where L has no more; 0 and CONTINUE go on, BREAK ends it well.");
        Check.error("foreach {} {} {}", "no names");
        Check.error("foreach { } {1} {}", "no names");
        Check.error("foreach a {1} {} {2} {}", "no names");
        Check.well("foreach a {} {error e}; info exists a", "0");
        Check.well("foreach a 1 {lappend l $a}; set l", "1");
        Check.well("foreach {a b} {1 2 3} {lappend l $a $b}; set l", "1 2 3 {}");
        Check.well("foreach {a b} {1 2 3 4} {lappend l $a $b}; set l", "1 2 3 4");
        Check.well("foreach a {1 2} b {} {lappend l $a $b}; set l", "1 {} 2 {}");
        Check.well("foreach {a b} {1} c {x y z} {lappend l $a$b$c}; set l", "1x y z");
        Check.well("foreach c {x} {a b} {1 2 3 4 5} {lappend l $c$a$b}; set l", "x12 34 5");
        Check.well("foreach {a a} {1 2} {lappend l $a}; set l", "2");
        Check.well("foreach a {1 2 3} {if {$a == 2} break; lappend l $a}; list $a $l", "2 1");
        Check.well("foreach a {1 2 3} {if {$a == 2} continue; lappend l $a}; list $a $l", "3 {1 3}");
        Check.well("list [catch {foreach a {1 2} {return -level 0 -code 5 x}} r] $r $a", "5 x 1");
        Check.well("list [catch {foreach a {1 2} {return x}} r] $r", "2 x");
        Check.well("list [catch {foreach a {1 2} {error x}} r] $r", "1 x");
        Check.well("lmap a {} {list b}", "");
        Check.well("lmap a {1 2} {list}", "{} {}");
        Check.well("lmap a {1 2 3 4} {if {$a == 2} continue; if {$a == 4} break; list $a b}", "{1 b} {3 b}");
        Check.error("lmap a {1 2} {error x}", "x");
        Check.error("lmap {} {1} {}", "no names");
        Check.well("foreach a {1 2 3} {set a x; lappend l $a}; set l", "x x x");
    }

    private static void dictGet() {
        Check.sentence("get D [K ..]: the value of K, as a DICTIONARY of that K, .. (\"no key: K\"); without K D, WRITTEN. exists D K ..: 1, 0.");
        Check.well("dict get {}", "");
        Check.well("dict get { a  1 }", "a 1");
        Check.error("dict get {} a", "no key: a");
        Check.well("dict get {a 1} a", "1");
        Check.error("dict get {a 1} b", "no key: b");
        Check.error("dict get {a 1} {}", "no key: ");
        Check.well("dict get {{} 1} {}", "1");
        Check.error("dict get {a b c d} b", "no key: b");
        Check.error("dict get {a b c d} d", "no key: d");
        Check.well("dict exists {a b c d} b", "0");
        Check.well("dict get {a {b {c 1}}} a b c", "1");
        Check.error("dict get {a {b 1}} a c", "no key: c");
        Check.error("dict get {a {b 1}} c b", "no key: c");
        Check.error("dict get {a 1} a b", "no dictionary");
        Check.error("dict get {a {}} a b", "no key: b");
        Check.error("dict get {a \\{} a b", "missing brace");
        Check.well("dict exists {a 1} a", "1");
        Check.well("dict exists {a 1} b", "0");
        Check.well("dict exists {} a", "0");
        Check.well("dict exists {a {b 1}} a b", "1");
        Check.well("dict exists {a {b 1}} a c", "0");
        Check.well("dict exists {a {b 1}} c b", "0");
        Check.well("dict exists {a x} c b", "0");
        Check.error("dict exists {a x} a b", "no dictionary");
        Check.error("dict exists {a \\{} a b", "missing brace");
        Check.error("dict exists a b", "no dictionary");
    }

    private static void dictSet() {
        Check.sentence("set N K .. V (one K at least): set: what isn't on the way comes, behind.");
        Check.well("dict set d a 1", "a 1");
        Check.well("dict set d {} {}", "{} {}");
        Check.well("set d {a 1 b 2}; dict set d a 3", "a 3 b 2");
        Check.well("set d {a 1 b 2}; dict set d c 3", "a 1 b 2 c 3");
        Check.well("set d {a 1 a 2}; dict set d b 3", "a 2 b 3");
        Check.well("dict set d a b c 1", "a {b {c 1}}");
        Check.well("set d {a b}; dict set d b c", "a b b c");
        Check.well("set d {a b c b}; dict unset d b", "a b c b");
        Check.well("list [dict create a b b a] [dict size {a b b a}] [dict merge {a b} {b c}] [dict get {a b b c}]", "{a b b a} 2 {a b b c} {a b b c}");
        Check.well("set d {a {b 1} x y}; dict set d a c 2", "a {b 1 c 2} x y");
        Check.well("set d {a {}}; dict set d a b 1", "a {b 1}");
        Check.error("set d {a b}; dict set d a c 1", "no dictionary");
        Check.error("set d a; dict set d b 1", "no dictionary");
        Check.error("set d {a \\{}; dict set d a b 1", "missing brace");
        Check.well("set d a; catch {dict set d b 1}; set d", "a");
        Check.well("set d {a \\{}; dict set d a 1", "a 1");
        Check.well("trace add variable d {read write} {lappend ::l}; dict set d a 1; dict set d a 2; set l", "d {} write d {} read d {} write");
    }

    private static void dictUnset() {
        Check.sentence("unset: the last K may be missing, others \"no key: K\".");
        Check.well("dict unset d a; list [info exists d] $d", "1 {}");
        Check.well("set d {a 1 b 2}; dict unset d a", "b 2");
        Check.well("set d {a 1}; dict unset d b", "a 1");
        Check.well("set d {a 1 a 2}; dict unset d b", "a 2");
        Check.well("set d { a  1 }; dict unset d a", "");
        Check.well("set d {a {b 1 c 2}}; dict unset d a b", "a {c 2}");
        Check.well("set d {a {b 1}}; dict unset d a b", "a {}");
        Check.well("set d {a {b 1}}; dict unset d a c", "a {b 1}");
        Check.error("set d {a {b 1}}; dict unset d c b", "no key: c");
        Check.error("dict unset d a b", "no key: a");
        Check.error("set d {a {b 1}}; dict unset d a c x", "no key: c");
        Check.error("set d {a b}; dict unset d a c", "no dictionary");
    }

    private static void dictIncr() {
        Check.sentence("incr, lappend: as incr, lappend of that value.");
        Check.well("dict incr d a", "a 1");
        Check.well("dict incr d a " + MOST, "a " + MOST);
        Check.well("set d {a 9223372036854775806}; dict incr d a", "a " + MOST);
        Check.error("set d {a " + MOST + "}; dict incr d a", "too great");
        Check.well("set d {a -9223372036854775807}; dict incr d a -1", "a " + LEAST);
        Check.error("set d {a " + LEAST + "}; dict incr d a -1", "too great");
        Check.well("set d {a 0x10 b 2}; dict incr d a", "a 17 b 2");
        Check.error("set d {a {}}; dict incr d a", "no number: ");
        Check.error("set d {a x}; dict incr d a y", "no number: x");
        Check.error("dict incr d a y", "no number: y");
        Check.well("catch {dict incr d a y}; info exists d", "0");
        Check.well("dict lappend d a x", "a x");
        Check.well("dict lappend d a x {y z} {}", "a {x {y z} {}}");
        Check.well("set d {a { x  y }}; dict lappend d a z", "a {x y z}");
        Check.error("set d {a \\{}; dict lappend d a x", "missing brace");
        Check.sentence("dict lappend N K without V: K's value stays as it is (no letters if it isn't there).");
        Check.well("set d {a { x  y }}; dict lappend d a", "a { x  y }");
        Check.well("set d {a \\{}; dict lappend d a", "a \\{");
        Check.well("dict lappend d a", "a {}");
        Check.well("set d {b 1}; dict lappend d a", "b 1 a {}");
    }

    private static void dictOthers() {
        Check.sentence("create K V ..; keys D [P]; values D; size D; merge D ..; for N D S: N a list of two names (\"no names\" else).");
        Check.well("dict create {} {}", "{} {}");
        Check.well("dict create #a 1", "{#a} 1");
        Check.well("dict keys {}", "");
        Check.well("dict keys {ab 1 b 2 ac 3} a*", "ab ac");
        Check.well("dict keys {ab 1} q", "");
        Check.well("dict keys {{} 1} {}", "{}");
        Check.well("dict values {}", "");
        Check.well("dict values {a {} b {c d}}", "{} {c d}");
        Check.well("dict size {}", "0");
        Check.well("dict size {a 1 a 2 b 3}", "2");
        Check.well("dict merge", "");
        Check.well("dict merge {}", "");
        Check.well("dict merge { a  1 a 2 }", "a 2");
        Check.well("dict merge {a 1 b 2} {} {b 3 c 4} {a 5}", "a 5 b 3 c 4");
        for (String names : new String[] {"{}", "a", "{a b c}"}) {
            Check.error("dict for " + names + " {x 1} {}", "no names");
            Check.error("dict for " + names + " {} {}", "no names");
        }
        Check.well("dict for {a b} {} {error e}; info exists a", "0");
        Check.well("dict for {a b} {x 1} {lappend l $a $b}; set l", "x 1");
        Check.well("dict for {a b} {x 1 y 2 x 3} {lappend l $a $b}; set l", "x 3 y 2");
        Check.well("dict for {a b} {x 1 y 2 z 3} {if {$b == 2} break; lappend l $a}; list $a $l", "y x");
        Check.well("dict for {a b} {x 1 y 2 z 3} {if {$b == 2} continue; lappend l $a}; set l", "x z");
        Check.well("list [catch {dict for {a b} {x 1} {return -level 0 -code 5 q}} r] $r", "5 q");
    }
}
