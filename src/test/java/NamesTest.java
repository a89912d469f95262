/** Part IV and the commands about names: variables, arrays, LINKS, levels, rooms. */
public final class NamesTest {
    public static void main(String[] args) {
        variables();
        arrays();
        links();
        elementLinks();
        levels();
        rooms();
        commands();
        deletes();
        Check.end();
    }

    private static void variables() {
        Check.well("set a 1; set a", "1");
        Check.error("set a", "no name: a");
        Check.error("set a(b)", "no name: a(b)");
        Check.error("set a 1; set a(b)", "no array: a");
        Check.error("set a 1; set a(b) 2", "no array: a");
        Check.error("set a(b) 1; set a", "is array: a");
        Check.error("set a(b) 1; set a 2", "is array: a");
        Check.error("set a(b) 1; set a(c)", "no name: a(c)");
        Check.error("set x::y 1", "no room: x");
        Check.error("set x::y", "no room: x");
        Check.error("set ::x::y::z(q) 1", "no room: ::x::y");
        Check.error("list $x:::y", "no room: x");
        Check.well("set :: 5; list ${::} [set ::]", "5 5");
        Check.error("set {} 1; set (x) 2", "no array: ");
        Check.well("set a(x(y) 1; array get a", "x(y 1");
        Check.well("set a) 1; set a)", "1");
    }

    private static void arrays() {
        Check.well("array set a {x 1 y 2 x 3}; list [array get a] [array names a] [array size a]", "{x 3 y 2} {x y} 2");
        Check.well("set a(b) 1; set a(a) 2; unset a(b); set a(b) 3; array names a", "a b");
        Check.well("array set a {}; list [array exists a] [array size a] [info exists a]", "1 0 1");
        Check.error("array set a x", "no dictionary");
        Check.error("set a 1; array set a x", "no array: a");
        Check.error("set a 1; array set a {}", "no array: a");
        Check.error("array set a(1) {x y}", "no array: a");
        Check.error("array set n::a {x y}", "no room: n");
        Check.well("set a(x) 1; list [array exists a] [array exists a(x)] [array exists b] [array exists n::b]", "1 0 0 0");
        Check.well("list [array get b] [array names n::b] [array size b] [array get a(x)]", "{} {} 0 {}");
        Check.well("array set a {ab 1 b 2 ac 3}; list [array get a a*] [array names a {[b]}]", "{ab 1 ac 3} b");
        Check.well("array set a {ab 1 b 2 ac 3}; array unset a a*; array get a", "b 2");
        Check.well("array set a {ab 1}; array unset a; info exists a", "0");
        Check.well("set a 1; array unset a; array unset a x; set a", "1");
        Check.error("array unset n::a", "no room: n");
        Check.error("array foo a", "no such: foo");
        Check.error("array", "arguments: array");
        Check.error("array get", "arguments: array");
        Check.well("set a(x) 1; unset a(x); array exists a", "1");
        Check.error("unset a(x)", "no name: a(x)");
        Check.error("set a 1; unset a(x)", "no name: a(x)");
        Check.error("unset n::a", "no room: n");
        Check.well("unset -nocomplain a n::a a(x); unset; unset -nocomplain; set b 1; unset -nocomplain b; info exists b", "0");
        Check.error("set a 1; set b 2; unset a c b", "no name: c");
        Check.well("set a 1; set b 2; catch {unset a c b}; list [info exists a] [info exists b]", "0 1");
    }

    private static void links() {
        Check.well("set x 1; proc f {} {global x y; incr x; set y 5}; f; list $x $y", "2 5");
        Check.error("proc f {} {set x 1; global x}; f", "is there: x");
        Check.error("proc f {} {global ::x}; f", "bad name: ::x");
        Check.error("proc f {} {global x(1)}; f", "bad name: x(1)");
        Check.well("global ::x x(1)", "");
        Check.error("variable ::x", "bad name: ::x");
        Check.error("variable x(1) 2", "bad name: x(1)");
        Check.error("variable", "arguments: variable");
        Check.well("variable x 1 y; list $x [info exists y]", "1 0");
        Check.well("proc f {} {upvar 1 a b; set b 3; unset b; info exists b}; set a 1; list [f] [info exists a]", "0 0");
        Check.well("proc f {n} {upvar $n v; incr v}; proc g {} {set q 5; f q; f q}; g", "7");
        Check.error("upvar a b", "no level: 1");
        Check.error("upvar x a b", "no level: x");
        Check.error("upvar #1 a b", "no level: #1");
        Check.error("upvar -1 a b", "no level: -1");
        Check.error("upvar 99999999999999999999 a b", "no level: 99999999999999999999");
        Check.error("upvar", "arguments: upvar");
        Check.error("upvar 1", "arguments: upvar");
        Check.error("upvar 0 a a", "is itself: a");
        Check.error("set a 1; upvar 0 a a", "is there: a");
        Check.error("upvar 0 a(x) a", "is itself: a");
        Check.error("upvar 0 a b; upvar 0 b a", "is itself: a");
        Check.error("set b 1; upvar 0 a b", "is there: b");
        Check.error("upvar 0 a b::c", "bad name: b::c");
        Check.error("upvar 0 a b(c)", "bad name: b(c)");
        Check.error("upvar 0 x::a b", "no room: x");
        Check.well("upvar 0 a b; upvar 0 c b; set b 1; list [info exists a] $c", "0 1");
        Check.well("upvar 0 a b; set a 1; upvar 0 b c; incr c; list $a $b $c", "2 2 2");
        Check.well("upvar 0 b a; upvar 0 c b; set a 1; list $c $b", "1 1");
        Check.error("proc f {} {set x 1; namespace eval n {upvar 1 x y}}; f", "bad name: y");
        Check.well("proc f {} {global g; namespace eval n {upvar 1 g y; set y 4}}; f; list $g $n::y", "4 4");
        Check.well("proc f {} {upvar #0 a(1) x; set x 2}; f; array get a", "1 2");
        Check.well("proc f {} {upvar a x; info exists x}; list [f] [info exists a]", "0 0");
    }

    private static void elementLinks() {
        Check.error("upvar 0 a(1) e; upvar 0 e(2) f", "no array: e");
        Check.error("upvar 0 a(1) e; set e(2) 1", "no array: e");
        Check.error("upvar 0 a(1) e; set e(2)", "no array: e");
        Check.error("upvar 0 a(1) e; unset e(2)", "no name: e(2)");
        Check.well("upvar 0 a(1) e; list [info exists e(2)] [info exists e] [info exists a]", "0 0 0");
        Check.error("upvar 0 a(1) e; set a 5; set e", "no array: e");
        Check.error("upvar 0 a(1) e; set a 5; set e 6", "no array: e");
        Check.well("upvar 0 a(1) e; set e 5; unset a; set a(1) 7; set e", "7");
        Check.well("upvar 0 a(1) e; set e 5; unset e; list [array get a] [info exists e]", "{} 0");
        Check.well("upvar 0 a(1) e; upvar 0 e f; set f 3; array get a", "1 3");
        Check.error("upvar 0 a(1) e; array set e {x y}", "no array: e");
        Check.error("upvar 0 a(1) e; set e", "no name: e");
    }

    private static void levels() {
        Check.well("info level", "0");
        Check.well("proc f {} {g}; proc g {} {list [info level] [info level 1] [info level 2]}; f", "2 f g");
        Check.error("info level 0", "no level: 0");
        Check.error("info level x", "no level: x");
        Check.error("proc f {} {info level 2}; f", "no level: 2");
        Check.well("namespace eval n {list [info level] [info level 1]}",
            "1 {namespace eval n {list [info level] [info level 1]}}");
        Check.well("apply {{a} {info level 1}} x", "apply {{a} {info level 1}} x");
        Check.well("proc f {} {set x 1; g; set x}; proc g {} {uplevel {incr x}; uplevel 1 set x 5}; f", "5");
        Check.well("proc f {} {g}; proc g {} {uplevel 1 {info level}}; f", "1");
        Check.well("proc f {} {g}; proc g {} {uplevel #0 {info level}}; f", "0");
        Check.error("uplevel 1 {list}", "no level: 1");
        Check.well("uplevel 0 {list a}", "a");
        Check.error("uplevel #x y", "no level: 1");
        Check.well("proc f {} {uplevel 1 {h}}; proc h {} {info level}; f", "1");
        Check.well("proc f {} {uplevel 0}; catch f e; set e", "no command: 0");
        Check.well("set x 1; proc f {} {uplevel {}}; f", "");
    }

    private static void rooms() {
        Check.well("namespace eval a::b {namespace current}", "::a::b");
        Check.well("namespace eval a {}; list [namespace exists a] [namespace exists ::a] [namespace exists b] [namespace exists {}]",
            "1 1 0 1");
        Check.well("namespace eval a {set x 1}; list $a::x [set ::a::x] [info exists x]", "1 1 0");
        Check.well("set x 5; namespace eval a {info exists x}", "0");
        Check.well("namespace current", "::");
        Check.well("list [namespace qualifiers ::a::b] [namespace tail ::a::b] [namespace qualifiers b] [namespace tail b]",
            "::a b {} b");
        Check.well("list [namespace qualifiers a:::b] [namespace tail a:::b] [namespace qualifiers ::b] [namespace tail a::]",
            "a b {} {}");
        Check.well("list [namespace qualifiers a:b] [namespace tail a:b]", "{} a:b");
        Check.well("namespace eval a {proc p {} {namespace current}}; list [a::p] [namespace eval b {::a::p}]", "::a ::a");
        Check.well("namespace eval a {variable v 1; proc p {} {variable v; incr v}}; a::p; set a::v", "2");
        Check.well("namespace eval a {proc list args {return mine}; list x}", "mine");
        Check.well("namespace eval a {namespace eval b {proc p {} {list q}}}; namespace eval a {b::p}", "q");
        Check.well("namespace eval b {proc p {} {list q}}; namespace eval a {b::p}", "q");
        Check.error("namespace eval a {::a::q}", "no command: ::a::q");
        Check.error("proc a::p {} {}", "no room: a");
        Check.error("namespace foo", "no such: foo");
        Check.well("namespace eval a; namespace exists a", "1");
        Check.well("namespace eval a list x {y z}", "x y z");
        Check check = new Check();
        check.ends(0, "namespace eval a::b {}; namespace eval c {}; list", "");
        Check.due("rooms", check.house.count(8), 3);
    }

    private static void commands() {
        Check.well("proc f {} {}; proc g {} {}; rename f h; info procs", "g h");
        Check.well("proc f {} {}; proc g {} {}; proc f {} {list}; info procs", "f g");
        Check.error("rename f g", "no command: f");
        Check.error("proc f {} {}; proc g {} {}; rename f g", "is there: g");
        Check.error("proc f {} {}; rename f a::g", "no room: a");
        Check.error("proc f {} {}; rename f {}; f", "no command: f");
        Check.well("namespace eval a {}; proc f {} {namespace current}; rename f a::g; a::g", "::a");
        Check.well("rename list mine; mine a b", "a b");
        Check.error("rename set mine; mine", "arguments: mine");
        Check.well("proc f {a {b 5} args} {list x}; list [info args f] [info body f]", "{a b args} {list x}");
        Check.error("info args list", "no procedure: list");
        Check.error("info body q", "no procedure: q");
        Check.error("proc f {{}} {}", "bad formal: ");
        Check.error("proc f {{a b c}} {}", "bad formal: a b c");
        Check.error("proc f {a:b} {}", "bad formal: a:b");
        Check.error("proc f {a(} {}", "bad formal: a(");
        Check.error("proc f \"{a\" {}", "missing brace");
        Check.error("proc f {a {\"b}} {}", "bad formal: \"b");
        Check.error("proc f {a b} {}; f 1", "arguments: f");
        Check.error("proc f {a b} {}; f 1 2 3", "arguments: f");
        Check.error("proc f {{a 1} b} {}; f 1", "arguments: f");
        Check.well("proc f {{a 1} args} {list $a $args}; list [f] [f 2] [f 2 3 {4 5}]", "{1 {}} {2 {}} {2 {3 {4 5}}}");
        Check.well("proc f {args a} {list $args $a}; f 1 2", "1 2");
        Check.well("apply {x {list $x $x}} 3", "3 3");
        Check.error("apply {x} 3", "no lambda: x");
        Check.error("apply {x y z w} 3", "no lambda: x y z w");
        Check.error("apply \"{\" 3", "missing brace");
        Check.error("apply {x y z} 3", "no room: z");
        Check.error("apply {x y}", "arguments: apply");
        Check.error("apply", "arguments: apply");
        Check.well("namespace eval n {}; apply {{} {namespace current} n}", "::n");
        Check.well("namespace eval n {apply {{} {namespace current}}}", "::");
        Check.well("proc unknown {args} {list u {*}$args}; foo a b", "u foo a b");
        Check.well("namespace eval n {proc unknown args {list no}; catch {foo} e; set e}", "no command: foo");
        Check.well("proc {} {} {list empty}; {}", "empty");
    }

    private static void deletes() {
        Check.error("namespace delete a", "no room: a");
        Check.error("namespace delete ::", "in use: ::");
        Check.error("namespace eval a {namespace delete ::a}", "in use: ::a");
        Check.error("namespace eval a {namespace eval b {namespace delete ::a}}", "in use: ::a");
        Check.error("namespace eval a {proc p {} {namespace delete ::a}}; a::p", "in use: ::a");
        Check.well("namespace eval a {set x 1; namespace eval b {}}; namespace delete a; list [namespace exists a] [info exists a::x]",
            "0 0");
        Check.well("namespace eval a {set x 1}; upvar 0 a::x y; namespace delete a; list [info exists y] [set y 3] $y", "0 3 3");
        Check check = new Check();
        check.ends(0, "namespace eval a {proc p {} {}; namespace eval b {proc q {} {}}; coroutine c yield}; namespace delete a", "");
        Check.due("counts", check.house.count(7) + " " + check.house.count(8) + " " + check.house.count(9), "0 0 0");
        Check.error("namespace eval a {proc p {} yield}; coroutine c a::p; namespace delete a", "in use: a");
        Check.error("namespace eval a {}; coroutine a::c eval {namespace delete a}", "in use: a");
        Check.well("namespace eval a {}; coroutine a::c yield; namespace delete a; catch a::c e; set e", "no command: a::c");
    }
}
