/** The boundary cases of part VII that are alike for all commands: how many words, families, what is asked first. */
public final class BoundsWordsTest {
    /** Each command with as many words as it takes at least and at most (- for any number more). */
    private static final String[][] WORDS = {
        {"set", "1", "2"}, {"incr", "1", "2"}, {"append", "1", "-"}, {"lappend", "1", "-"}, {"unset", "0", "-"}, {"global", "0", "-"},
        {"variable", "1", "-"}, {"upvar", "2", "-"}, {"array exists", "1", "1"}, {"array set", "2", "2"}, {"array get", "1", "2"},
        {"array names", "1", "2"}, {"array size", "1", "1"}, {"array unset", "1", "2"}, {"info exists", "1", "1"}, {"info level", "0", "1"},
        {"info commands", "0", "1"}, {"info procs", "0", "1"}, {"info args", "1", "1"}, {"info body", "1", "1"}, {"info coroutine", "0", "0"},
        {"trace add variable", "3", "3"}, {"trace remove variable", "3", "3"}, {"trace info variable", "1", "1"},
        {"list", "0", "-"}, {"llength", "1", "1"}, {"lindex", "1", "-"}, {"lset", "2", "-"}, {"lrange", "3", "3"}, {"linsert", "2", "-"},
        {"lreplace", "3", "-"}, {"lreverse", "1", "1"}, {"lrepeat", "1", "-"}, {"concat", "0", "-"}, {"join", "1", "2"}, {"split", "1", "2"},
        {"lassign", "1", "-"}, {"lsearch", "2", "2"}, {"lsearch -exact", "2", "2"}, {"lsearch -glob", "2", "2"}, {"lsort", "1", "1"},
        {"lsort -integer", "1", "1"}, {"lsort -integer -decreasing -unique", "1", "1"}, {"foreach", "3", "3"}, {"lmap", "3", "3"},
        {"dict create", "0", "0"}, {"dict get", "1", "-"}, {"dict exists", "2", "-"}, {"dict set", "3", "-"}, {"dict unset", "2", "-"},
        {"dict incr", "2", "3"}, {"dict lappend", "2", "-"}, {"dict keys", "1", "2"}, {"dict values", "1", "1"}, {"dict size", "1", "1"},
        {"dict merge", "0", "-"}, {"dict for", "3", "3"}, {"string length", "1", "1"}, {"string index", "2", "2"}, {"string range", "3", "3"},
        {"string first", "2", "2"}, {"string last", "2", "2"}, {"string compare", "2", "2"}, {"string equal", "2", "2"},
        {"string match", "2", "2"}, {"string map", "2", "2"}, {"string repeat", "2", "2"}, {"string reverse", "1", "1"},
        {"string tolower", "1", "1"}, {"string toupper", "1", "1"}, {"string trim", "1", "2"}, {"string trimleft", "1", "2"},
        {"string trimright", "1", "2"}, {"string cat", "0", "-"}, {"string is", "2", "2"}, {"subst", "1", "1"}, {"puts", "1", "1"},
        {"puts -nonewline", "1", "1"}, {"eval", "1", "-"}, {"expr", "1", "-"}, {"if", "2", "3"}, {"while", "2", "2"}, {"for", "4", "4"},
        {"catch", "1", "2"}, {"error", "1", "1"}, {"break", "0", "0"}, {"continue", "0", "0"}, {"return", "0", "1"}, {"return -code 0", "0", "1"},
        {"return -code 0 -level 0", "0", "1"}, {"proc", "3", "3"}, {"rename", "2", "2"}, {"namespace eval", "1", "-"},
        {"namespace current", "0", "0"}, {"namespace exists", "1", "1"}, {"namespace delete", "1", "1"}, {"namespace qualifiers", "1", "1"},
        {"namespace tail", "1", "1"}, {"coroutine", "2", "-"}, {"yield", "0", "1"}, {"apply", "1", "-"}};

    public static void main(String[] args) {
        howMany();
        pairs();
        wordsThatAreTold();
        families();
        aheadOfAll();
        firstWord();
        fromTheLeft();
        joined();
        all();
        Check.end();
    }

    private static String with(String command, int words) {
        return command + " a".repeat(words);
    }

    private static void howMany() {
        Check.sentence("Other words than are told: the ERROR \"arguments: N\", N the command's first word.");
        for (String[] row : WORDS) {
            String first = row[0].split(" ")[0];
            String due = "arguments: " + first;
            int least = Integer.parseInt(row[1]);
            int most = row[2].equals("-") ? least + 2 : Integer.parseInt(row[2]);
            // What stands ahead of the words may be a word itself where there are too few: lsort -integer.
            boolean alone = row[0].matches("(lsearch|lsort|puts|return) .*");
            for (int words = alone ? least : 0; words <= most + 1; words++) {
                boolean right = words >= least && (words <= most || row[2].equals("-"));
                Check check = new Check();
                check.evaluate(with(row[0], words));
                Check.due(with(row[0], words) + " has wrong words", check.result().equals(due), !right);
            }
        }
    }

    private static void pairs() {
        Check.sentence("variable, upvar, foreach, lmap want one N (and what goes with it) at least.");
        Check.error("variable", "arguments: variable");
        Check.error("upvar", "arguments: upvar");
        Check.error("upvar 1", "arguments: upvar");
        Check.well("upvar 0 a b", "");
        Check.well("upvar 0 a b c d", "");
        Check.error("upvar #0 a b c", "no level: 1");
        Check.error("foreach", "arguments: foreach");
        Check.error("foreach a", "arguments: foreach");
        Check.error("foreach a b", "arguments: foreach");
        Check.error("foreach a b c d", "arguments: foreach");
        Check.well("foreach a b c d {}", "");
        Check.error("lmap {}", "arguments: lmap");
        Check.error("lmap a b c d", "arguments: lmap");
        Check.well("lmap a 1 b 2 {list $a$b}", "12");
        Check.well("dict create", "");
        Check.error("dict create a", "arguments: dict");
        Check.well("dict create a b", "a b");
        Check.error("dict create a b c", "arguments: dict");
        Check.well("variable a", "");
        Check.well("variable a 1 b; list $a [info exists b]", "1 0");
        Check.error("dict exists {a b}", "arguments: dict");
        Check.error("dict set d k", "arguments: dict");
        Check.error("dict unset d", "arguments: dict");
        Check.error("lset l", "arguments: lset");
        Check.error("eval", "arguments: eval");
        Check.error("expr", "arguments: expr");
        Check.error("coroutine c", "arguments: coroutine");
    }

    private static void wordsThatAreTold() {
        Check.sentence("[ X ] may be left out, X .. are any number, also none. Other words than are told: the ERROR \"arguments: N\".");
        for (String[] row : new String[][] {
            {"lsearch -foo {a} a", "lsearch"}, {"lsearch -exact -glob {a} a", "lsearch"}, {"lsort -foo a", "lsort"}, {"lsort -integer -integer a", "lsort"},
            {"lsort -unique -decreasing -unique a", "lsort"}, {"lsort a -unique", "lsort"}, {"puts -x a", "puts"}, {"puts a -nonewline", "puts"},
            {"puts -nonewline a b", "puts"}, {"try {}", "try"}, {"try", "try"}, {"try {} finally", "try"}, {"try {} final {}", "try"},
            {"try {} finally {} {}", "try"}, {"return a b", "return"}, {"return -code 0 -code 0", "return"}, {"return -level 0 -level 0 a", "return"},
            {"return -foo a", "return"}, {"return a -code 0", "return"}, {"trace add a b c d", "trace"}, {"trace remove a b c d", "trace"},
            {"trace info a b", "trace"}, {"trace add variable", "trace"}, {"switch", "switch"}, {"switch a", "switch"}, {"switch a {}", "switch"},
            {"switch a b", "switch"}, {"switch a {b c d}", "switch"}, {"switch a b c d", "switch"}, {"switch -exact a", "switch"},
            {"switch -exact -glob a", "switch"}, {"switch -- a", "switch"}, {"if 1", "if"}, {"if 1 {} else", "if"}, {"if 1 {} elseif", "if"},
            {"if 1 {} elseif 1", "if"}, {"if 1 {} {} {}", "if"}, {"if 1 {} else {} {}", "if"}, {"if 1 {} else {} elseif 1 {}", "if"},
            {"if 1 {} elseif 1 then", "if"}, {"coroutine c yield; c 1 2", "c"}, {"coroutine c yield; ::c 1 2", "::c"}}) {
            Check.error(row[0], "arguments: " + row[1]);
        }
        for (String script : new String[] {"lsort -integer -decreasing -unique 1", "lsort -unique -integer -decreasing 1", "puts -nonewline a",
            "try {} finally {}", "return -level 0 -code 0 a", "return -code 0 -level 0 a", "switch a {b c}", "switch a b c", "switch -- a b c",
            "switch -exact -- a b c", "switch -glob -- a {b c}", "if 1 {} else {}", "if 0 {} elseif 1 {}", "if 0 {} elseif 1 then {} else {}",
            "if 1 then {} {}", "unset -nocomplain", "unset", "global", "namespace eval r"}) {
            Check.due(script, new Check().evaluate(script), 0);
        }
    }

    private static void families() {
        Check.sentence("A first word of a family that isn't told: \"no such: V\".");
        for (String family : new String[] {"array", "info", "trace", "dict", "string", "namespace"}) {
            Check.error(family, "arguments: " + family);
            Check.error(family + " foo", "no such: foo");
            Check.error(family + " foo a b c d e f", "no such: foo");
            Check.error(family + " {}", "no such: ");
            Check.error(family + " Exists a", "no such: Exists");
            Check.error("rename " + family + " f; f", "arguments: f");
        }
        Check.error("string len abc", "no such: len");
        Check.error("string is foo a", "no such: foo");
        Check.error("string is {} a", "no such: ");
        Check.error("string is Alpha a", "no such: Alpha");
        Check.error("string is alpha", "arguments: string");
    }

    private static void aheadOfAll() {
        Check.sentence("Ahead of all else of it (if, switch, try too: ahead of evaluating anything).");
        for (String script : new String[] {"if {[puts a]} {} {} {}", "if 0 {} elseif {[puts a]} {} else {} x", "try {puts a} finally", "try {puts a} x {puts b}",
            "switch a {a {puts b} c}", "switch a a {puts b} c", "foreach x {1 2} {puts a} b", "while 1 {puts a} b", "for {puts a} 1 {} {} b",
            "catch {puts a} b c", "set a b c", "eval", "coroutine c", "proc a b", "dict for {a b} {1 2} {puts a} c", "lset a", "incr a b c"}) {
            new Check().writes(1, script, "");
        }
        Check.error("set r::a 1 2", "arguments: set");
        Check.error("lrange \\{ x", "arguments: lrange");
        Check.error("lindex", "arguments: lindex");
        Check.error("dict get", "arguments: dict");
        Check.well("catch {set a 1 2}; info exists a", "0");
    }

    private static void firstWord() {
        Check.sentence("N the command's first word.");
        Check.error("::set", "arguments: ::set");
        Check.error("rename set mine; mine", "arguments: mine");
        Check.error("rename set {a b}; {a b}", "arguments: a b");
        Check.error("namespace eval n {rename ::set put}; n::put", "arguments: n::put");
        Check.error("proc f {} {}; ::f 1", "arguments: ::f");
        Check.error("proc f a {}; f", "arguments: f");
        Check.error("namespace eval n {proc f {} {}}; n::f 1", "arguments: n::f");
        Check.error("apply {a {}}", "arguments: apply");
        Check.error("rename apply use; use {a {}}", "arguments: use");
        Check.error("{*}set", "arguments: set");
    }

    private static void fromTheLeft() {
        Check.sentence("What is asked of words is asked from the left, unless it is told otherwise.");
        String[][] due = {{"lrange \\{ x y", "missing brace"}, {"lrange a x y", "bad index: x"}, {"lrange a 0 y", "bad index: y"},
            {"linsert \\{ x", "missing brace"}, {"linsert a x", "bad index: x"}, {"lreplace \\{ x y", "missing brace"}, {"lreplace a x y", "bad index: x"},
            {"lreplace a 0 y", "bad index: y"}, {"lindex \\{ x", "missing brace"}, {"lindex a x y", "bad index: x"}, {"string range a x y", "bad index: x"},
            {"string index a x", "bad index: x"}, {"foreach {} \\{ {}", "no names"}, {"foreach a \\{ {} b {}", "no names"},
            {"foreach a \\{ b \\\" {}", "missing brace"}, {"foreach a b \\{ b {} c {}", "missing brace"}, {"dict for a \\{ {}", "no names"},
            {"dict for {a b} \\{ {}", "missing brace"}, {"dict for \\{ \\\" {}", "missing brace"}, {"dict get \\{ a", "missing brace"},
            {"return -code x -level y", "bad code: x"}, {"return -level y -code x", "bad level: y"}, {"upvar x r::a b::c", "no level: x"},
            {"upvar 0 r::a b::c", "no room: r"}, {"upvar 0 a b::c d r::e", "bad name: b::c"}, {"array set r::a \\{", "no room: r"},
            {"proc r::p {{}} {}", "no room: r"}, {"rename nn r::p", "no command: nn"}, {"coroutine r::c nn", "no room: r"},
            {"coroutine list nn", "is there: list"}, {"lrepeat x", "no number: x"}, {"string repeat a x", "no number: x"}, {"incr r::a x", "no room: r"},
            {"set a x; incr a y", "no number: x"}, {"set a x; dict incr a k y", "no dictionary"}, {"set a {k x}; dict incr a k y", "no number: x"},
            {"apply {{{}} {} r}", "bad formal: "}, {"apply {\\{ {} r}", "missing brace"}, {"lset r::a x y", "no room: r"}, {"lset a x y", "no name: a"},
            {"set a \\{; lset a x y", "missing brace"}, {"set a b; lset a x y", "bad index: x"}, {"namespace delete r", "no room: r"},
            {"trace add variable r::a foo x", "no room: r"}, {"lassign \\{ r::a", "missing brace"}, {"dict merge a \\{", "no dictionary"},
            {"string map a b", "no dictionary"}, {"lsort -integer \\{", "missing brace"}, {"lsort -integer {1 x y}", "no number: x"},
            {"uplevel 5 nn", "no level: 5"}};
        for (String[] pair : due) {
            Check.error(pair[0], pair[1]);
        }
    }

    private static void joined() {
        Check.sentence("Scripts of several words are joined as by concat.");
        Check.well("eval list a b", "a b");
        Check.well("eval { list a } {} { } {b c}", "a b c");
        Check.well("eval {list a;} {list b}", "b");
        Check.well("eval {}", "");
        Check.well("eval {} { }", "");
        Check.well("eval {list {a b}}", "{a b}");
        Check.well("eval list {a b}", "a b");
        Check.well("uplevel 0 { list a } {b c}", "a b c");
        Check.well("uplevel 0 {} {}", "");
        Check.well("namespace eval r { list a } {b c}", "a b c");
        Check.well("namespace eval r", "");
        Check.well("expr 1 + 2", "3");
        Check.sentence("expr A ..(one at least, BLANKS between)");
        Check.well("expr { 1 } { + 2}", "3");
        Check.error("expr 1 { } 2", "bad expression");
        Check.well("expr {\"a} {b\"}", "a b");
        Check.well("expr {\"a } { b\"}", "a   b");
        Check.sentence("What isn't told to answer answers no letters.");
        for (String script : new String[] {"unset -nocomplain a", "global a", "variable a 1", "upvar 0 a b", "array set a {x 1}", "array unset a",
            "trace add variable a read x", "trace remove variable a read x", "foreach a {1 2} {list b}", "dict for {a b} {1 2} {list c}", "puts a",
            "while 0 {}", "for {list a} 0 {} {}", "proc f {} {}", "rename list mine", "namespace eval r {}; namespace delete r", "if 0 {}", "switch a b {}",
            "foreach a {1} {break}"}) {
            Check.well("list x;" + script, "");
        }
    }

    private static void all() {
        Check.sentence("info commands: those of :: at first: as they are told here.");
        Check.well("info commands", "set incr append lappend unset global variable upvar array info trace list llength lindex lset lrange linsert"
            + " lreplace lreverse lrepeat concat join split lassign lsearch lsort foreach lmap dict string subst puts eval expr if while for switch catch try"
            + " error break continue return uplevel proc apply rename namespace coroutine yield");
    }
}
