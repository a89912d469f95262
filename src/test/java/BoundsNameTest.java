/** The boundary cases of part IV: rooms, commands' names, levels, variables, LINKS, WATCHES; and what part VIII tells of them. */
public final class BoundsNameTest {
    public static void main(String[] args) {
        paths();
        tails();
        commands();
        unknown();
        levels();
        elements();
        ofLevelOrRoom();
        noRoom();
        notThere();
        array();
        elementOfValue();
        elementNotThere();
        nothingThere();
        elementLinks();
        linksThroughNothing();
        watchesOfActs();
        watchesWithin();
        watchesTenDeep();
        watchesEnd();
        watchesGo();
        lookedUpAnew();
        watchesMeanwhile();
        Check.end();
    }

    private static void paths() {
        Check.sentence("A PATH is names with :: (or more : ) between; it is ABSOLUTE if it begins with :: , else it goes from the room at hand."
            + " FULL names are written with :: ahead of each part.");
        Check.well("namespace eval a::b {namespace current}", "::a::b");
        Check.well("namespace eval a:::b {namespace current}", "::a::b");
        Check.well("namespace eval a::::::b {namespace current}", "::a::b");
        Check.well("namespace eval a:b {namespace current}", "::a:b");
        Check.well("namespace eval ::a {namespace current}", "::a");
        Check.well("namespace eval :::a {namespace current}", "::a");
        Check.well("namespace eval :a {namespace current}", "::" + ":a");
        Check.well("namespace eval a {namespace eval b {namespace current}}", "::a::b");
        Check.well("namespace eval a {namespace eval ::b {namespace current}}", "::b");
        Check.well("namespace current", "::");
        Check.well("namespace eval :: {namespace current}", "::");
        Check.well("namespace eval a {namespace eval :: {namespace current}}", "::");
        Check.well("namespace eval a {namespace eval b::c {namespace current}}", "::a::b::c");
        Check.well("namespace eval a {namespace eval :b {namespace current}}", "::a:::b");
        Check.well("namespace eval a {namespace eval :b {set x 1; proc p {} {list P}}; list ${:b::x} [:b::p] [namespace exists :b]}", "1 P 1");
        Check.well("namespace eval a:::b {}; list [namespace exists a::b] [namespace exists a:::b] [namespace exists a:b]", "1 1 0");
        Check.sentence("A PATH without letters is the room at hand.");
        Check.well("namespace eval {} {namespace current}", "::");
        Check.well("namespace eval a {namespace eval {} {namespace current}}", "::a");
        Check.well("namespace eval a {namespace exists {}}", "1");
        Check.error("namespace delete {}", "in use: ");
    }

    private static void tails() {
        Check.sentence("In a name the last part is its TAIL, what is ahead the PATH of its room (:: alone at the beginning is the room :: ; no"
            + " parts: the TAIL has no letters).");
        Check.well("set x 1; namespace eval a {set x 2; list $x $::x $::a::x}", "2 1 2");
        Check.well("proc ::p {} {list P}; namespace eval a {list [p] [::p]}", "P P");
        Check.well("set :: 5; list [set ::] [set ::::] [set {}] [info exists :::]", "5 5 5 1");
        Check.well("namespace eval a {}; set a:: 5; namespace eval a {list [set {}] [info exists ::]}", "5 0");
        Check.well("proc {} {} {list E}; list [::] [{}]", "E E");
        Check.well("namespace eval a {}; proc a:: {} {list E}; namespace eval a {list [{}] [info procs]}", "E {{}}");
        Check.well("set a:b 1; list [info exists a:b] [namespace exists a]", "1 0");
    }

    private static void commands() {
        Check.sentence("A COMMAND's name without a PATH means that of the room at hand, else that of :: .");
        String rooms = "proc p {} {list top}; namespace eval a {namespace eval b {}}; namespace eval b {};";
        Check.well(rooms + "proc a::p {} {list a}; namespace eval a p", "a");
        Check.well(rooms + "namespace eval a p", "top");
        Check.well(rooms + "rename p {}; proc a::p {} {list a}; namespace eval a::b {catch p e; set e}", "no command: p");
        Check.well(rooms + "proc a::p {} {list a}; namespace eval a ::p", "top");
        Check.error(rooms + "proc a::q {} {list a}; namespace eval a ::q", "no command: ::q");
        Check.sentence("With a relative PATH that of the room by it, else that by it from :: .");
        Check.well(rooms + "proc a::b::p {} {list ab}; proc b::p {} {list b}; namespace eval a b::p", "ab");
        Check.well(rooms + "proc b::p {} {list b}; namespace eval a b::p", "b");
        Check.well(rooms + "proc b::p {} {list b}; namespace eval a::b b::p", "b");
        Check.error(rooms + "proc a::b::p {} {list ab}; b::p", "no command: b::p");
        Check.error(rooms + "namespace eval a b::p", "no command: b::p");
        Check.error("x::y", "no command: x::y");
        Check.error("namespace eval a {}; a::list", "no command: a::list");
        Check.error(":list", "no command: :list");
        Check.well("::list a", "a");
        Check.well(":::list a", "a");
        Check.well("namespace eval a {::list b}", "b");
    }

    private static void unknown() {
        Check.sentence("Else, if :: has a command unknown, that is called with the command's words behind its own; else \"no command: N\".");
        Check.error("nn", "no command: nn");
        Check.error("{}", "no command: ");
        Check.well("proc unknown args {list u $args}; nn", "u nn");
        Check.well("proc unknown args {list u $args}; nn {a b} c", "u {nn {a b} c}");
        Check.well("proc unknown args {list u $args}; x::y", "u x::y");
        Check.well("proc unknown args {list u $args}; {}", "u {{}}");
        Check.well("rename list unknown; nn a", "nn a");
        Check.well("namespace eval a {proc unknown args {list u}; list [catch nn e] $e}", "1 {no command: nn}");
        Check.well("namespace eval a {proc unknown args {list u}}; catch a::nn e; set e", "no command: a::nn");
        Check.error("proc unknown {} {}; nn", "arguments: unknown");
        Check.error("proc unknown a {}; nn b", "arguments: unknown");
        Check.error("proc unknown args {error e}; nn", "e");
        Check.sentence("A call of unknown counts as the command that wasn't found (info level tells its words with unknown).");
        Check.well("proc unknown args {info level 1}; nn a", "unknown nn a");
        Check.well("proc unknown args {info level}; nn a", "1");
        Check.work("proc unknown args {}; nn a", (1 + 5 + 8 + 5 + 1) + (1 + 3 + 2) + 1);
    }

    private static void levels() {
        Check.sentence("LEVELS: 0; one more for each call of a procedure or apply, and each namespace eval, that is going on.");
        Check.well("info level", "0");
        Check.well("eval {info level}", "0");
        Check.well("proc f {} {info level}; f", "1");
        Check.well("apply {{} {info level}}", "1");
        Check.well("namespace eval a {info level}", "1");
        Check.well("namespace eval a {apply {{} {namespace eval b {info level}}}}", "3");
        Check.well("proc f {} {catch {error x}; info level}; f; info level", "0");
        Check.well("coroutine c info level", "0");
        Check.sentence("A level has a room and, if it is a procedure's, names of its own; the others have their room's.");
        Check.well("set x 1; proc f {} {info exists x}; f", "0");
        Check.well("proc f {} {set x 1}; f; info exists x", "0");
        Check.well("namespace eval a {set x 1}; set a::x", "1");
        Check.well("proc f {} {namespace eval a {set x 1}; info exists x}; list [f] $a::x", "0 1");
        Check.well("proc f {} {set x 1; g; set x}; proc g {} {set x 2}; f", "1");
        Check.error("proc f x {if {$x} {f 0; set y} else {set y 1}}; f 1", "no name: y");
    }

    private static void elements() {
        Check.sentence("A NAME of a variable: if it ends with ) and has a ( : an ELEMENT, ahead of the first ( the array, behind it the INDEX.");
        String[][] due = {{"a(b)", "a", "b"}, {"a()", "a", ""}, {"()", "", ""}, {"(b)", "", "b"}, {"a(b(c)", "a", "b(c"}, {"a(b)c)", "a", "b)c"},
            {"a((b))", "a", "(b)"}, {"a)(b)", "a)", "b"}, {"a(b c)", "a", "b c"}, {"a(b::c)", "a", "b::c"}, {"a())", "a", ")"}};
        for (String[] row : due) {
            Check.well("set {" + row[0] + "} 1; array get {" + row[1] + "}", pair(row[2]));
            Check.well("set {" + row[0] + "} 1; set {" + row[0] + "}", "1");
        }
        for (String name : new String[] {"a(b", "a)", "(", ")", "a(b)c", ")(", "a(", "a:b"}) {
            Check.well("set {" + name + "} 1; list [info exists {" + name + "}] [info exists a] [array exists {" + name + "}]", "1 0 0");
        }
    }

    private static String pair(String index) {
        return (index.isEmpty() ? "{}" : index.equals("b c") ? "{b c}" : index) + " 1";
    }

    private static void ofLevelOrRoom() {
        Check.sentence("The rest with :: in it is of a room (by its PATH from the room at hand ..), else of the level.");
        Check.well("proc f {} {set a:b 1}; f; info exists a:b", "0");
        Check.well("proc f {} {set ::a 1}; f; set a", "1");
        Check.well("proc f {} {set a(::b) 1}; f; info exists a", "0");
        Check.well("proc f {} {set ::a(b) 1}; f; array get a", "b 1");
        Check.well("namespace eval r {namespace eval s {}; proc f {} {set s::x 1}}; r::f; list [info exists s::x] $r::s::x", "0 1");
        Check.error("namespace eval s {}; namespace eval r {proc f {} {set s::x 1}}; r::f", "no room: s");
        Check.error("namespace eval s {set x 1}; namespace eval r {set s::x}", "no room: s");
    }

    private static void noRoom() {
        Check.sentence("\"no room: P\", P what is ahead of the last two or more : together, these left out, if there is none.");
        String[][] due = {{"r::x", "r"}, {"r:::x", "r"}, {"r:::::x", "r"}, {"::r::x", "::r"}, {"r::s::x", "r::s"}, {"r:s::x", "r:s"},
            {"r::x(y::z)", "r"}, {"r::", "r"}, {":::r::x", ":::r"}, {"r::s:::x", "r::s"}, {"r::x:y", "r"}};
        for (String[] pair : due) {
            Check.error("set " + pair[0], "no room: " + pair[1]);
            Check.error("set " + pair[0] + " 1", "no room: " + pair[1]);
        }
        Check.error("list $r::x", "no room: r");
        Check.error("list ${r::s::x}", "no room: r::s");
        for (String command : new String[] {"incr N", "append N v", "append N", "lappend N v", "lappend N", "lset N 0 v", "lset N v", "unset N",
            "dict set N k v", "dict unset N k", "dict incr N k", "dict lappend N k v", "lassign x N", "foreach N x {}", "lmap N x {}",
            "dict for {N b} {x y} {}", "dict for {b N} {x y} {}", "catch list N", "array set N {a b}", "array set N {}", "trace add variable N read x",
            "upvar 0 N m", "upvar 0 N(x) m"}) {
            Check.error(command.replace("N", "r::x"), "no room: r");
        }
        Check.error("proc r::s::p {} {}", "no room: r::s");
        Check.error("proc r:::p {} {}", "no room: r");
        Check.error("rename list r::p", "no room: r");
        Check.error("coroutine r::c list", "no room: r");
    }

    /** Commands that read or write a name N of one state, and how they end: the answer, or ! and the ERROR. */
    private static void table(String state, String name, String[][] rows) {
        for (String[] row : rows) {
            String script = state + row[0].replace("N", name);
            boolean error = row[1].startsWith("!");
            new Check().ends(error ? 1 : 0, script, error ? row[1].substring(1) : row[1]);
        }
    }

    private static void notThere() {
        Check.sentence("Reading: \"no name: N\" if it is not there (N as told). Writing: what is not there comes.");
        table("", "a", new String[][] {{"set N", "!no name: a"}, {"list $N", "!no name: a"}, {"list ${N}", "!no name: a"}, {"set N v", "v"},
            {"incr N", "1"}, {"incr N 5", "5"}, {"append N v", "v"}, {"append N", "!no name: a"}, {"lappend N {v w}", "{v w}"},
            {"lappend N", "!no name: a"}, {"lset N 0 v", "!no name: a"}, {"lset N v", "v"}, {"unset N", "!no name: a"}, {"unset -nocomplain N", ""},
            {"dict set N k v", "k v"}, {"dict unset N k", ""}, {"dict incr N k", "k 1"}, {"dict lappend N k v", "k v"},
            {"lassign x N; set N", "x"}, {"foreach N x {}; set N", "x"}, {"catch {list q} N; set N", "q"}, {"info exists N", "0"},
            {"array exists N", "0"}, {"array size N", "0"}, {"array get N", ""}, {"array names N", ""}, {"array unset N", ""},
            {"array set N {x y}; array get N", "x y"}, {"trace info variable N", ""}, {"trace remove variable N read x", ""}});
        table("", "::a", new String[][] {{"set N", "!no name: ::a"}, {"list $N", "!no name: ::a"}, {"unset N", "!no name: ::a"}});
        table("", "a(x)", new String[][] {{"set N", "!no name: a(x)"}, {"list $N", "!no name: a(x)"}, {"set N v; array get a", "x v"},
            {"incr N; array get a", "x 1"}, {"append N", "!no name: a(x)"}, {"lset N 0 v", "!no name: a(x)"}, {"unset N", "!no name: a(x)"},
            {"dict set N k v; array get a", "x {k v}"}, {"info exists N", "0"}, {"array set N {}", "!no array: a"}});
        Check.sentence("An ARRAY with its first ELEMENT.");
        Check.well("list [array exists a] [set a(x) 1] [array exists a] [array size a]", "0 1 1 1");
    }

    private static void array() {
        Check.sentence("\"is array: N\" an ARRAY without INDEX. Writing: \"is array: N\" likewise.");
        String[] rows = {"set N", "list $N", "set N v", "incr N", "append N v", "append N", "lappend N v", "lappend N", "lset N 0 v", "lset N v",
            "dict set N k v", "dict unset N k", "dict incr N k", "dict lappend N k v", "lassign x N", "foreach N x {}", "lmap N x {}",
            "dict for {N b} {x y} {}", "catch list N", "expr {$N}", "subst {$N}", "variable N v"};
        for (String row : rows) {
            Check.error("set a(x) 1;" + row.replace("N", "a"), "is array: a");
            Check.error("array set a {};" + row.replace("N", "a"), "is array: a");
        }
        Check.well("set a(x) 1; list [info exists a] [array exists a] [unset a] [info exists a]", "1 1 {} 0");
    }

    private static void elementOfValue() {
        Check.sentence("An ELEMENT of one with a VALUE: \"no array: N\" (N without INDEX, here and below).");
        String[] rows = {"set N", "list $N", "set N v", "incr N", "append N v", "append N", "lappend N v", "lset N 0 v", "lset N v", "dict set N k v",
            "dict unset N k", "dict incr N k", "dict lappend N k v", "lassign x N", "foreach N x {}", "catch list N", "array set N {}",
            "trace add variable N read x"};
        for (String row : rows) {
            Check.error("set a 1;" + row.replace("N", "a(x)"), "no array: a");
            Check.error("set a 1;" + row.replace("N", "::a(x)"), "no array: ::a");
        }
        Check.error("set a 1; array set a {x y}", "no array: a");
        Check.sentence("unset of an ELEMENT that isn't there, whatever its array is: \"no name: N\".");
        Check.error("unset a(x)", "no name: a(x)");
        Check.error("set a 1; unset a(x)", "no name: a(x)");
        Check.error("set a(y) 1; unset a(x)", "no name: a(x)");
        Check.error("upvar 0 b(1) a; unset a(x)", "no name: a(x)");
        Check.well("set a 1; unset -nocomplain a(x); set a", "1");
        Check.well("set a 1; list [info exists a(x)] [array exists a] [array size a] [array get a] [trace info variable a(x)]", "0 0 0 {} {}");
        Check.well("set a 1; trace remove variable a(x) read q", "");
    }

    private static void elementNotThere() {
        Check.sentence("A variable is .. an ARRAY (of ELEMENTS in the order in which they came).");
        Check.error("set a(y) 1; set a(x)", "no name: a(x)");
        Check.well("set a(b) 1; set a(a) 2; set a(c) 3; set a(b) 4; array get a", "b 4 a 2 c 3");
        Check.well("set a(b) 1; set a(a) 2; unset a(b); set a(b) 5; array get a", "a 2 b 5");
        Check.well("set a(b) 1; unset a(b); list [array exists a] [array size a]", "1 0");
        Check.error("set a(b) 1; unset a(b); set a 1", "is array: a");
    }

    private static void nothingThere() {
        Check.sentence("By a PATH without a room nothing is there for info exists, array exists, size, get, names, unset -nocomplain: no ERROR.");
        table("", "r::x", new String[][] {{"info exists N", "0"}, {"info exists N(y)", "0"}, {"array exists N", "0"}, {"array size N", "0"},
            {"array get N", ""}, {"array get N *", ""}, {"array names N", ""}, {"array names N *", ""}, {"unset -nocomplain N", ""},
            {"unset -nocomplain N(y)", ""}, {"unset N", "!no room: r"}, {"unset N(y)", "!no room: r"}});
        Check.sentence("array, N being an ELEMENT: no ARRAY (set: \"no array: N\"; of set N is asked ahead of D).");
        table("set a(x) 1;", "a(x)", new String[][] {{"array exists N", "0"}, {"array size N", "0"}, {"array get N", ""}, {"array names N", ""},
            {"array unset N; info exists N", "1"}, {"array unset N *; info exists N", "1"}, {"array set N {}", "!no array: a"},
            {"array set N odd", "!no array: a"}});
        Check.error("array set r::x odd", "no room: r");
        Check.error("set a 1; array set a odd", "no array: a");
        Check.error("array set a odd", "no dictionary");
        Check.well("catch {array set a odd}; info exists a", "0");
    }

    private static void elementLinks() {
        Check.sentence("A LINK to an ELEMENT: what is written comes with its array; \"no array: M\", M as told, where the variable has a VALUE.");
        Check.well("upvar 0 a(x) m; list [info exists a] [set m 1] [array get a]", "0 1 {x 1}");
        Check.error("upvar 0 a(x) m; set a 1; set m", "no array: m");
        Check.error("upvar 0 a(x) m; set a 1; set m 2", "no array: m");
        Check.error("upvar 0 a(x) m; set a 1; set ::m 2", "no array: ::m");
        Check.error("upvar 0 a(x) m; set m", "no name: m");
        Check.error("upvar 0 a(x) m; unset m", "no name: m");
        Check.error("upvar 0 a(x) m; set a 1; unset m", "no name: m");
        Check.well("upvar 0 a(x) m; set a 1; list [info exists m] [unset a] [set m 2] [array get a]", "0 {} 2 {x 2}");
        Check.well("upvar 0 a(x) m; set m 1; unset a; list [info exists m] [set a(x) 3] $m", "0 3 3");
        Check.well("upvar 0 a(x) m; set a 1; list [array exists m] [array size m] [array get m]", "0 0 {}");
        Check.sentence("its acts do the array's WATCHES, too, M being told without INDEX");
        Check.well("set a(x) 1; upvar 0 a(x) m; trace add variable a {read write unset} {lappend ::l}; set m; set m 2; unset m; set l",
            "m {} read m {} write m {} unset");
        Check.well("set a(x) 1; upvar 0 a(x) m; trace add variable a(x) read {lappend ::l}; set m; set l", "m {} read");
        Check.sentence("M with an INDEX of its own: \"no array: M\" (M without INDEX) in all acts, ahead of WATCHES, not there for exists and"
            + " unset.");
        String link = "set a(x) 1; upvar 0 a(x) m; trace add variable m {read write unset} {incr ::w;#};";
        for (String row : new String[] {"set m(y)", "set m(y) 1", "incr m(y)", "append m(y) v", "lappend m(y) v", "lset m(y) v", "dict set m(y) k v",
            "lassign v m(y)", "foreach m(y) v {}", "catch list m(y)", "array set m {y z}", "trace add variable m(y) read q"}) {
            Check.error(link + row, "no array: m");
            Check.well(link + "catch {" + row + "} e; list $e [info exists w]", "{no array: m} 0");
        }
        Check.well(link + "list [info exists m(y)] [unset -nocomplain m(y)] [info exists w]", "0 {} 0");
        Check.error(link + "unset m(y)", "no name: m(y)");
        Check.well(link + "list [trace info variable m(y)] [trace remove variable m(y) read q]", "{} {}");
        Check.error("upvar 0 a(x) m; upvar 0 m(y) n", "no array: m");
    }

    private static void linksThroughNothing() {
        Check.sentence("A LINK, which is what it leads to (to a variable that isn't a LINK then ..).");
        Check.well("upvar 0 a b; list [info exists b] [info exists a]", "0 0");
        Check.well("upvar 0 a b; upvar 0 b c; upvar 0 d b; set c 1; list [info exists a] [info exists d]", "1 0");
        Check.well("set a 1; upvar 0 a b; unset b; list [info exists a] [set b 2] $a", "0 2 2");
        Check.well("upvar 0 a b; set b(x) 1; array get a", "x 1");
        Check.error("upvar 0 a b; set a(x) 1; set b", "is array: b");
        Check.error("upvar 0 a b; set a 1; set b(x)", "no array: b");
        Check.error("upvar 0 a b; set b", "no name: b");
        Check.well("upvar 0 b a; upvar 0 a(x) m; upvar 0 c a; set m 1; list [array get b] [info exists c]", "{x 1} 0");
        Check.well("upvar 0 b a; proc f {} {catch {set r::x}; global a; uplevel 1 {upvar 0 c a}; set a 1}; f; list [info exists b] [info exists c]", "1 0");
        Check.sentence("names in it are not there then, LINKS lead to them still");
        Check.well("namespace eval r {set x 1}; upvar 0 r::x m; namespace delete r; list [info exists m] [set m 2] [namespace eval r {info exists x}] $m",
            "0 2 0 2");
    }

    private static void watchesOfActs() {
        Check.sentence("An act by a name (each reading; each writing; unset of what is there): ahead of a reading, behind a writing and behind"
            + " unset, first the WATCHES of the ARRAY (if it is of an ELEMENT), then its own, for this act, are DONE.");
        String note = "proc n {t args} {lappend ::l $t[lindex $args 2]}; trace add variable a {read write unset} {n a};";
        Check.well(note + "set a 1; set l", "awrite");
        Check.well(note + "set a 1; set a; set l", "awrite aread");
        Check.well(note + "catch {set a}; set l", "aread");
        Check.well(note + "catch {unset a}; info exists l", "0");
        Check.well(note + "unset -nocomplain a; info exists l", "0");
        Check.well(note + "set a 1; unset a; set l", "awrite aunset");
        Check.well(note + "info exists a; array exists a; info exists l", "0");
        Check.well(note + "trace add variable a {read write unset} {n b}; set a 1; set l", "bwrite awrite");
        Check.well("array set a {};" + note + "trace add variable a(x) {read write unset} {n e}; set a(x) 1; set a(x); unset a(x); set l",
            "awrite ewrite aread eread aunset eunset");
        Check.well("array set a {};" + note + "trace add variable a(x) {read write unset} {n e}; set a(y) 1; set l", "awrite");
        Check.well("array set a {x 1};" + note + "trace add variable a(x) unset {n e}; unset a; set l", "aunset");
        Check.well("trace add variable a read {set a 5;#}; set r $a", "5");
        Check.well("trace add variable a write {set a 5;#}; set a 1", "5");
        Check.well("set a 1; trace add variable a unset {set ::r [info exists a];#}; unset a; set r", "0");
        Check.sentence("the script of the command's letters, a BLANK and, written as a list, the name as told without INDEX, the INDEX (no letters"
            + " without), read, write or unset");
        Check.well("trace add variable a write {lappend l}; set a 1; set l", "a {} write");
        Check.well("trace add variable ::a write {lappend l}; set ::a 1; set l", "::a {} write");
        Check.well("trace add variable a(x) write {lappend l}; set a(x) 1; set l", "a x write");
        Check.well("trace add variable a() write {lappend l}; set a() 1; set l", "a {} write");
        Check.well("trace add variable {#b(c d)} write {lappend l}; set {#b(c d)} 1; set l", "{#b} {c d} write");
        Check.well("trace add variable {} write {lappend l}; set {} 1; set l", "{} {} write");
        Check.error("trace add variable a write {}; set a 1", "watch: no command: a");
    }

    private static void watchesWithin() {
        Check.sentence("While WATCHES of a variable are DONE, no others of it are.");
        Check.well("trace add variable a {read write} {incr ::n; set a 2; set a;#}; set a 1; list $n $a", "1 2");
        Check.well("trace add variable a write {incr ::n; set a 2;#}; set a 1; set n", "1");
        Check.well("trace add variable a write {incr ::n; set b 2;#}; trace add variable b write {incr ::n; set a 3;#}; set a 1; list $n $a", "2 3");
        Check.well("trace add variable a write {incr ::n; set a(y) 2;#}; set a(x) 1; set n", "1");
        Check.well("array set a {}; trace add variable a(x) write {incr ::n; set a(y) 2;#}; trace add variable a(y) write {incr ::n;#}; set a(x) 1; set n",
            "2");
        Check.well("set a 1; trace add variable a unset {incr ::n; set a 1; unset a;#}; unset a; set n", "1");
        comeAgain();
    }

    /** A variable that is NOT THERE and comes again is the same one, an ELEMENT too, whatever its array's WATCHES did ahead of its own. */
    private static void comeAgain() {
        String again = "trace add variable N write {incr ::n;#}; set N 2;#}; set N 1; list [info exists n] [set N]";
        Check.well("trace add variable N write {unset N; ".replace("N", "a") + again.replace("N", "a"), "0 2");
        Check.well("trace add variable N write {unset N; ".replace("N", "a(x)") + again.replace("N", "a(x)"), "0 2");
        Check.well("trace add variable a(x) write {unset a; " + again.replace("N", "a(x)"), "0 2");
        for (String ahead : new String[] {"", "trace remove variable a(x) write w; ", "set a(x) 1; unset a(x); ", "set a(x) 1; unset a; "}) {
            Check.well("set a(x) 0; trace add variable a unset {" + ahead + "trace add variable a(x) write {incr ::n;#};#};"
                + " trace add variable a(x) unset {set a(x) 5;#}; unset a(x); list [info exists n] [set a(x)]", "0 5");
        }
        Check.well("set a(x) 0; trace add variable a unset {trace add variable a(x) write {incr ::n;#}; set a(x) 5;#}; unset a(x);"
            + " list $n [set a(x)]", "1 5");
    }

    /** Variables v1 .. vn, of which each one's WATCH does an act of the next one; the last of them does one of z, which has none. */
    private static String chain(int n, String act) {
        StringBuilder row = new StringBuilder("set z 0;");
        for (int i = 1; i <= n; i++) {
            String next = i == n ? "z" : "v" + (i + 1);
            row.append("set v").append(i).append(" 0; trace add variable v").append(i).append(' ').append(act).append(" {incr ::n; ")
                .append(act.equals("unset") ? "unset " + next : "set " + next + (act.equals("write") ? " 1" : "")).append(";#};");
        }
        return row.toString();
    }

    private static void watchesTenDeep() {
        Check.sentence("At most 10 acts' WATCHES are within one another: else the act ends with the ERROR \"too deep\" (of unset that is nothing)"
            + " in place of these.");
        String more = "watch: ".repeat(10) + "too deep";
        Check.well(chain(10, "write") + "list [set v1 1] $n $v10 $z", "1 10 1 1");
        Check.well(chain(11, "write") + "list [catch {set v1 1} e] $e $n $v10 $v11 $z", "1 {" + more + "} 10 1 1 0");
        Check.well(chain(11, "write") + "list [set v2 1] $n $z", "1 10 1");
        Check.well(chain(10, "read") + "list [set v1] $n", "0 10");
        Check.well(chain(11, "read") + "list [catch {set v1} e] $e $n", "1 {" + more + "} 10");
        Check.well(chain(10, "unset") + "unset v1; list $n [info exists v10] [info exists z]", "10 0 0");
        Check.well(chain(11, "unset") + "unset v1; list $n [info exists v10] [info exists v11] [info exists z]", "10 0 0 1");
        Check.well(chain(12, "write") + "catch {set v1 1}; list [catch {set v3 2} e] $e", "0 2");
        Check.sentence("WATCHES within one another, and COROUTINES running within one another, are counted through one another.");
        String by = "{incr ::n; coroutine c$::n set v";
        Check.well(chain(10, "write").replace("{incr ::n; set v", by) + "list [set v1 1] $n $z", "1 10 1");
        Check.well(chain(11, "write").replace("{incr ::n; set v", by) + "list [catch {set v1 1} e] $e $n", "1 {" + more + "} 10");
        StringBuilder both = new StringBuilder("proc f i {incr ::n; if {$i == $::m} {return end}; coroutine c$i set ::v[incr i] 1}; set m 0;");
        for (int i = 1; i <= 9; i++) {
            both.append("trace add variable v").append(i).append(" write {coroutine d").append(i).append(" f ").append(i).append(";#};");
        }
        Check.well(both + "set m 9; list [f 0] $n", "1 10");
        Check.well(both + "set m 9; list [coroutine q coroutine r f 0] $n", "1 10");
        Check.well(both + "set m 9; list [catch {coroutine q coroutine r coroutine s f 0} e] [string range $e end-7 end] $n", "1 {too deep} 9");
    }

    private static void watchesEnd() {
        Check.sentence("If one ends with another code than 0: of unset that is nothing; else the act ends with the ERROR \"watch: V\", V its answer"
            + " (what was written stays).");
        for (String[] code : new String[][] {{"error e", "e"}, {"return r", "r"}, {"break", ""}, {"continue", ""},
            {"return -level 0 -code 9 n", "n"}, {"nn", "no command: nn"}, {"list {", "missing brace"}}) {
            String body = code[0].equals("list {") ? "\"list \\{\"" : "{" + code[0] + ";#}";
            Check.error("trace add variable a write " + body + "; set a 1", "watch: " + code[1]);
            Check.error("set a 1; trace add variable a read " + body + "; set a", "watch: " + code[1]);
            Check.well("set a 1; trace add variable a unset " + body + "; unset a; info exists a", "0");
            Check.well("trace add variable a write " + body + "; list [catch {set a 1}] [info exists a]", "1 1");
        }
        Check.well("trace add variable a write {return -level 0 -code 0 x;#}; set a 1", "1");
        Check.error("trace add variable a write {error x;#}; trace add variable a write {list;#}; set a 1", "watch: x");
        Check.well("trace add variable a write {incr ::n;#}; trace add variable a write {error x;#}; catch {set a 1}; info exists n", "0");
        Check.well("set a 1; trace add variable a unset {incr ::n;#}; trace add variable a unset {error x;#}; unset a; set n", "1");
    }

    private static void watchesGo() {
        Check.sentence("What is unset has no WATCHES any more (they are DONE when it is gone); names of a level that ends, of a room that is"
            + " deleted, and ELEMENTS of an ARRAY that is unset go without.");
        String watch = "trace add variable N {write unset} {incr ::n;#}";
        Check.well("set a 1;" + watch.replace("N", "a") + "; unset a; set a 2; list $n [trace info variable a]", "1 {}");
        Check.well("set a(x) 1;" + watch.replace("N", "a(x)") + "; unset a(x); set a(x) 2; list $n [trace info variable a(x)]", "1 {}");
        Check.well("set a(x) 1;" + watch.replace("N", "a(x)") + "; unset a; list [info exists n] [set a(x) 1] [info exists n]", "0 1 0");
        Check.well("proc f {} {set a 1;" + watch.replace("N", "a") + "}; f; info exists n", "0");
        Check.well("namespace eval r {set a 1}; " + watch.replace("N", "r::a") + "; namespace delete r; info exists n", "0");
        Check.sentence("What becomes a LINK has WATCHES of its own no more (they are removed).");
        Check.well(watch.replace("N", "a") + "; upvar 0 b a; set a 1; list [info exists n] [trace info variable a] [trace info variable b]", "0 {} {}");
        Check.well("proc f {} {" + watch.replace("N", "a") + "; global a; set a 1; info exists ::n}; f", "0");
    }

    private static void lookedUpAnew() {
        Check.sentence("Behind WATCHES a name is looked up anew: to be read (\"no room: P\", too); and behind a writing for what set and the like"
            + " answer (\"no name: N\", if its room is there no more, too).");
        Check.error("set a 1; trace add variable a read {unset a;#}; set a", "no name: a");
        Check.error("set a 1; trace add variable a read {unset a; set a(x) 1;#}; set a", "is array: a");
        Check.error("set a(x) 1; trace add variable a read {unset a; set a 1;#}; set a(x)", "no array: a");
        Check.error("namespace eval r {set a 1}; trace add variable r::a read {namespace delete r;#}; set r::a", "no room: r");
        for (String act : new String[] {"set N 1", "incr N", "append N x", "lappend N x", "dict set N k v", "dict incr N k", "dict lappend N k v",
            "lset N x"}) {
            Check.error("trace add variable a write {unset a;#};" + act.replace("N", "a"), "no name: a");
            Check.error("trace add variable a write {unset a; set a(x) 1;#};" + act.replace("N", "a"), "no name: a");
            Check.error("namespace eval r {}; trace add variable r::a write {namespace delete r;#};" + act.replace("N", "r::a"), "no name: r::a");
            Check.error("trace add variable a(x) write {unset a; set a 1;#};" + act.replace("N", "a(x)"), "no name: a(x)");
        }
        Check.sentence("array unset passes by what is there no more, its room too.");
        Check.well("array set a {x 1 y 2}; trace add variable a(x) unset {unset a;#}; array unset a *; info exists a", "0");
        Check.well("array set a {x 1 y 2}; trace add variable a(x) unset {unset a; set a 1;#}; array unset a *; set a", "1");
        Check.well("namespace eval r {array set a {x 1 y 2}}; trace add variable r::a(x) unset {namespace delete r;#}; array unset r::a *", "");
        Check.well("array set a {x 1 y 2}; trace add variable a(x) unset {set a(z) 3;#}; array unset a *; array get a", "z 3");
        Check.well("array set a {x 1 y 2}; trace add variable a(x) unset {unset a(y); set a(y) 3;#}; array unset a *; array get a", "");
    }

    private static void watchesMeanwhile() {
        Check.sentence("The WATCHES of an act are those that are there when it begins; one that is removed meanwhile isn't DONE.");
        Check.well("trace add variable a write {append ::l 1;#}; trace add variable a write {trace add variable a write {append ::l 3;#};#};"
            + " set a 1; set l", "1");
        Check.well("trace add variable a write {append ::l 1;#}; trace add variable a write {trace remove variable a write {append ::l 1;#};#};"
            + " set a 1; info exists l", "0");
        Check.well("trace add variable a write {append ::l 1;#}; trace add variable a write {append ::l 2; unset a;#}; catch {set a 1} e; list $e $l",
            "{no name: a} 2");
        Check.well("trace add variable a(x) write {append ::l e;#}; trace add variable a write {append ::l a; unset a(x);#}; catch {set a(x) 1} e;"
            + " list $e $l", "{no name: a(x)} a");
        String two = "proc w1 args {incr ::n}; proc w2 args {trace remove variable ::a A w2; trace remove variable ::a A w1};"
            + " trace add variable a A w1; trace add variable a A w2;";
        Check.well(two.replace("A", "write") + "set a 1; info exists n", "0");
        Check.well(two.replace("A", "read") + "set a 1; set a; info exists n", "0");
        Check.well("set a(x) 1;" + two.replace("A", "unset") + "unset a(x); info exists n", "0");
        Check.well("set a 1;" + two.replace("A", "unset") + "unset a; info exists n", "1");
        Check.well("proc w1 args {incr ::n}; trace add variable a(x) write w1; trace add variable a write {trace remove variable a(x) write w1;#};"
            + " set a(x) 1; info exists n", "0");
        Check.well("proc w1 args {incr ::n}; trace add variable a(x) write w1; trace add variable a(x) write {unset a;#}; catch {set a(x) 1} e;"
            + " list $e [info exists n]", "{no name: a(x)} 0");
        Check.sentence("What becomes a LINK has WATCHES of its own no more (they are removed).");
        Check.well("trace add variable a read {incr ::n;#}; trace add variable a read {upvar 0 b a;#}; set b 5; list [set a] [info exists n]", "5 0");
    }
}
