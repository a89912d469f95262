/** Promise 4 and part II: what complete() answers, and how scripts are cut. */
public final class CuttingTest {
    public static void main(String[] args) {
        completes();
        completesOnTheTape();
        words();
        substitutions();
        faults();
        nesting();
        expansion();
        waiting();
        Check.end();
    }

    private static void completes() {
        Check.complete("", 1);
        Check.complete("set a 1; set b {x y}\n# {\n", 1);
        Check.complete("set a {", 0);
        Check.complete("set a \"x", 0);
        Check.complete("set a [b", 0);
        Check.complete("set a $b(c", 0);
        Check.complete("set a ${b", 0);
        Check.complete("[# x ]", 0);
        Check.complete("set a {b}c", 2);
        Check.complete("set a \"b\"c", 2);
        Check.complete("set a {b}c {", 2);
        Check.complete("set a {b c; set d {e}f", 0);
        Check.complete("a ]", 1);
        Check.complete("a {*}{*}x", 2);
        Check.complete("a {*}{*}", 1);
        Check.complete("a \\", 1);
        Check.complete("a [b]c", 1);
        Check.complete("a [b {c}d]", 2);
        Check.complete("a [b {c}]", 1);
        Check.complete("[".repeat(50) + "]".repeat(50), 1);
        Check.complete("[".repeat(51) + "]".repeat(51), 2);
        Check.complete("$a(".repeat(50) + ")".repeat(50), 1);
        Check.complete("$a(".repeat(51) + ")".repeat(51), 2);
        Check.complete("{[".repeat(51) + "]}".repeat(51), 1);
    }

    private static void completesOnTheTape() {
        Check check = new Check();
        check.feed("set a {x y}; set b {");
        Check.due("complete(20)", check.house.complete(20), 0);
        Check.due("complete(11)", check.house.complete(11), 1);
        Check.due("complete(10)", check.house.complete(10), 0);
        Check.due("complete(21)", check.house.complete(21), CommandHouse.NONE);
        Check.due("complete(-1)", check.house.complete(-1), CommandHouse.NONE);
        Check.due("tape after complete", check.house.count(5), 20);
        Check.due("evaluate(21)", check.house.evaluate(21), CommandHouse.NONE);
        Check.due("evaluate(-1)", check.house.evaluate(-1), CommandHouse.NONE);
        Check.due("tape after evaluate(-1)", check.house.count(5), 20);
        Check.due("evaluate(11)", check.house.evaluate(11), 0);
        Check.due("tape after evaluate", check.house.count(5), 0);
        Check.due("result", check.result(), "x y");
    }

    private static void words() {
        Check.well("list a\tb\u000bc \\\n  d;# e\nlist f g", "f g");
        Check.well("list a\tb \\\n  d", "a b d");
        Check.well("# x \\\n y\nlist z", "z");
        Check.well("list {a {b} \\} c} \"d e\"", "a\\ \\{b\\}\\ \\\\\\}\\ c {d e}");
        Check.well("list {a\\\n   b}", "{a b}");
        Check.well("list {a\\\\\nb}", "a\\\\\\\\\\nb");
        Check.well("list a\"b c{d} e}f g]", "{a\"b} {c{d}} e\\}f {g]}");
        Check.well("list [list a]b[list c]", "abc");
        Check.well(";;\n ; list a ; ;", "a");
        Check.well("list [list a; list b\n]", "b");
        Check.well("list [] [\n] [;#x\n]", "{} {} {}");
        Check.well("list [list a;]", "a");
        Check.well("list [# x ]\nlist y]", "y");
        Check.well("list [list {a]}] [list \"b]\"] [list c\\]]", "{{a]}} {{b]}} {{c]}}");
        Check.well("", "");
        Check.well("list a\\", "a\\\\");
    }

    private static void substitutions() {
        Check.well("string length \"\\a\\b\\f\\n\\r\\t\\v\"", "7");
        Check.well("list \\x41 \\x4 \\x414 \\xg \\101 \\1011 \\8 \\400\\101", "A \u0004 A4 xg A A1 8 \u0000A");
        Check.well("set a 1; list $a.b ${a}b $a: $:a $ $$a \"$\" a$", "1.b 1b 1: {$:a} {$} {$1} {$} {a$}");
        Check.well("set a(x\\ y) 1; set i {x y}; list $a($i) $a(x y) $a([list x y]) ${a(x y)}", "1 1 1 1");
        Check.well("set {a(;\")} 1; list $a(;\") \"$a(;\\\")\"", "1 1");
        Check.well("set b(x\\)y) 2; list $b(x\\)y)", "2");
        Check.well("set ::v 3; list $::v $:::v ${::v}", "3 3 3");
        Check.well("set {a b} 1; list ${a b}", "1");
        Check.well("list $( $(a)", "{$(} {$(a)}");
        Check.well("set x [list a]; set y \"[set x]$x\\$x\"", "aa$x");
    }

    private static void faults() {
        Check.error("list {a}b", "letters behind brace");
        Check.error("list \"a\"b", "letters behind quote");
        Check.error("list {a", "missing brace");
        Check.error("list ${a", "missing brace");
        Check.error("list \"a", "missing quote");
        Check.error("list [a", "missing bracket");
        Check.error("list $a(b", "missing parenthesis");
        Check.error("list \"[list {a\"", "missing brace");
        Check.error("list [list \"a]", "missing quote");
        Check.error("list $a([list b", "missing bracket");
        Check.error("puts a; list {a", "missing brace");
        Check check = new Check();
        check.ends(1, "puts a\nlist [puts b] {a", "missing brace");
        Check.due("output", check.output(), "a\n");
        Check.error("list {*}{*}x", "letters behind brace");
    }

    private static void nesting() {
        Check.well("list " + "[list ".repeat(50) + "x" + "]".repeat(50), "x");
        Check.error("list " + "[list ".repeat(51) + "x" + "]".repeat(51), "too deep");
        Check.error("list " + "[list ".repeat(51) + "x" + "{a}b", "too deep");
        Check.error("list {a}b " + "[list ".repeat(51), "letters behind brace");
    }

    private static void expansion() {
        Check.well("list {*}{a b} c {*}{} {*}\"d {e f}\" {*}[list g h]", "a b c d {e f} g h");
        Check.well("list {*} a", "* a");
        Check.well("list [list {*}]", "*");
        Check.well("list {*};", "*");
        Check.well("list {*}\\\nb", "* b");
        Check.well("{*}{}", "");
        Check.well("{*}{list a} b", "a b");
        Check.well("list {*}{*}", "*");
        Check.error("list {*}\"{a\"", "missing brace");
        Check.error("list {*}\"{a}b\"", "letters behind brace");
    }

    /** Words wait while those further right are made: what they are is settled then, and an ERROR comes at its place. */
    private static void waiting() {
        Check.well("set a 1; list x $a [set a 2] $a \"b $a\" {c $a} [set a 3]$a", "x 1 2 2 {b 2} {c $a} 33");
        Check.well("set l {a b}; list {*}$l [set l {c d e}] {*}$l z", "a b {c d e} c d e z");
        Check check = new Check();
        check.ends(1, "list {*}{a {b} [puts late]", "missing brace");
        Check.due("output", check.output(), "");
        check.ends(1, "set l \"\\{\"; list [puts early] {*}$l [puts late]", "missing brace");
        Check.due("output", check.output(), "early\n");
        check.ends(1, "list [puts one] $none [puts two]", "no name: none");
        Check.due("output", check.output(), "one\n");
        Check.well("array set a {x1y 2 z2 3}; list <$a(x[expr 1]y)|$a(z$a(x[list 1]y))>[list q] r", "<2|3>q r");
        Check.well("array set a {( 1 {p q} 2}; list $a(p q) \"$a(p[string cat \" \"]q)\" {*}\"$a(p q) $a([list (])\"", "2 2 2 1");
        Check.well("proc f x {list <$x[g a$x[g b]c]>}; proc g x {list ($x)}; f 1[f 2]3", "<1<2(a2(b)c)>3(a1<2(a2(b)c)>3(b)c)>");
    }
}
