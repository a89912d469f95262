/** Part V: expressions. */
public final class ExpressionTest {
    public static void main(String[] args) {
        operators();
        numbers();
        letters();
        truths();
        faults();
        nesting();
        rounds();
        Check.end();
    }

    /** The same expression again and again, and others within it. */
    private static void rounds() {
        value("1 || 2 || [error e] || 0 ? 3 : 4", "3");
        value("0 && [error e] && 1 || 0 || 2 && 3", "1");
        value("(0 && 1 && [error e]) == 0 && (1 || [error e] || 0)", "1");
        value("1 ? 1 ? 0 ? 5 : 6 : 7 : 8", "6");
        Check.well("set i 0; while {$i < 3 || $i < 5 && $i != 4} {append o $i; incr i}; set o", "0123");
        Check.well("set e {$i + 1}; foreach i {1 2 3} {lappend o [expr $e] [expr $e] [expr {$i * 2}] [expr $e]}; set o",
            "2 2 2 2 3 3 4 3 4 4 6 4");
        Check.well("proc f n {expr {$n < 2 ? 1 : $n * [f [expr {$n - 1}]]}}; list [f 5] [f 6] [f 5]", "120 720 120");
        Check.well("foreach i {1 x 2} {lappend o [catch {expr {$i + 1}} v] $v}; set o", "0 2 1 {no number: x} 0 3");
        Check.well("foreach e {1+ 1+1 1+ 1+1} {lappend o [catch {expr $e} v] $v}; set o",
            "1 {bad expression} 0 2 1 {bad expression} 0 2");
    }

    private static void value(String expression, String due) {
        Check.well("set a 5; expr {" + expression + "}", due);
    }

    private static void fault(String expression, String due) {
        Check.error("set a 5; expr {" + expression + "}", due);
    }

    private static void operators() {
        value("1 + 2 * 3", "7");
        value("(1 + 2) * 3", "9");
        value("2 ** 3 ** 2", "512");
        value("-2 ** 2", "4");
        value("2 ** -0", "1");
        value("10 - 2 - 3", "5");
        value("1 << 2 + 1", "8");
        value("1 < 2 == 1", "1");
        value("1 == 1 eq 1", "1");
        value("5 & 3 ^ 6 | 8", "15");
        value("1 | 2 && 0 || 1", "1");
        value("1 ? 2 : 0 ? 3 : 4", "2");
        value("0 ? 2 : 0 ? 3 : 4", "4");
        value("1 ? 0 ? 1 : 2 : 3", "2");
        value("7 / 2", "3");
        value("-7 / 2", "-4");
        value("7 / -2", "-4");
        value("-7 % 2", "1");
        value("7 % -2", "-1");
        value("~5", "-6");
        value("!0", "1");
        value("!3", "0");
        value("- - 3", "3");
        value("+ 0x1F", "31");
        value("abs(-4) + min(3, 1,2) + max ( 7 )", "12");
        value("$a+[list 3]", "8");
        value("{3}+\"4\"", "7");
        value("3\\\n + 4", "7");
        value("-1 >> 70", "-1");
        value("5 >> 1", "2");
        value("-5 >> 1", "-3");
        value("0 << 100", "0");
        value("-1 << 63", "-9223372036854775808");
        value("0 ** 0", "1");
        value("(-1) ** 99999999999", "-1");
        value("(-2) ** 63", "-9223372036854775808");
        value("5 in {3 5}", "1");
        value("5 ni {3 5}", "0");
        value("\"b c\" in {a {b c}}", "1");
    }

    private static void numbers() {
        value("0x10", "16");
        value("0b101 + 0o17", "20");
        value("007", "7");
        value("\"+5\"", "5");
        value("\"0xfF\"", "255");
        value("\"0Xff\"", "0Xff");
        value("\" 5\"", " 5");
        value("9223372036854775807", "9223372036854775807");
        value("\"-9223372036854775808\"", "-9223372036854775808");
        value("\"9223372036854775808\"", "9223372036854775808");
        fault("9223372036854775808", "bad expression");
        fault("0x8000000000000000", "bad expression");
        fault("9223372036854775807 + 1", "too great");
        fault("-9223372036854775807 - 2", "too great");
        fault("\"-9223372036854775808\" / -1", "too great");
        value("\"-9223372036854775808\" % -1", "0");
        fault("- \"-9223372036854775808\"", "too great");
        fault("abs(\"-9223372036854775808\")", "too great");
        fault("4611686018427387904 * 2", "too great");
        value("-4611686018427387904 * 2", "-9223372036854775808");
        fault("2 ** 63", "too great");
        fault("1 << 63", "too great");
        fault("1 << 64", "too great");
        fault("1 << -1", "bad second");
        fault("1 >> -1", "bad second");
        fault("1 ** -1", "bad second");
        fault("1 / 0", "divided by 0");
        fault("1 % 0", "divided by 0");
        fault("\"x\" / 0", "no number: x");
        fault("1 / \"x\"", "no number: x");
        fault("\"x\" + \"y\"", "no number: x");
        fault("min(1, \"x\", \"y\")", "no number: x");
        fault("~ \"x\"", "no number: x");
    }

    private static void letters() {
        value("\"abc\" < \"abd\"", "1");
        value("\"ab\" < \"abc\"", "1");
        value("10 < 9", "0");
        value("\"10\" < \"9a\"", "1");
        value("0x10 == 16", "1");
        value("0x10 eq 16", "0");
        value("0x10 eq {0x10}", "1");
        value("\"a\" ne \"b\"", "1");
        value("1 ? {0x10} : 2", "16");
        value("1 ? {a b} : 2", "a b");
        value("\"x[list y]z\"", "xyz");
        value("{a\\\n  b} eq \"a b\"", "1");
        fault("1 in \"{\"", "missing brace");
    }

    private static void truths() {
        value("true && yes && on", "1");
        value("false || no || off", "0");
        value("true", "true");
        value("!true", "0");
        value("0 && [error x]", "0");
        value("1 || [error x]", "1");
        value("1 ? 2 : [error x]", "2");
        fault("{x} && 1", "no truth: x");
        fault("1 && {x}", "no truth: x");
        fault("{x} ? 1 : 2", "no truth: x");
        fault("!{True}", "no truth: True");
        Check.error("if {} {}", "bad expression");
        Check.error("if x {}", "bad expression");
        Check.error("if {{x}} {}", "no truth: x");
        Check.error("while {\"\"} {}", "no truth: ");
    }

    private static void faults() {
        String[] bad = {"", "1 +", "+", "1 2", "(1", "1)", "1 ? 2", "1 : 2", "a", "truex", "1eq 2", "1 eqq 2", "1 = 2",
            "1 ! 2", "abs 1", "abs()", "abs(1, 2)", "min()", "min(1,)", "(1, 2)", "$", "\"a", "{a", "[list", "$a(b", "1,2",
            "1 &&& 2", "* 2", "1 ? (2 : 3)", "{a}b", "1 # x", "0x", "1_", "08x", "[list {a}b]"};
        for (String expression : bad) {
            Check.well("catch {expr " + quoted(expression) + "} e; set e", "bad expression");
        }
        Check.well("set x [list puts a]; catch {expr {[puts a] + }} e; set e", "bad expression");
        Check check = new Check();
        check.ends(1, "expr {[puts a] + }", "bad expression");
        Check.due("cut as a whole", check.output(), "");
        check.ends(1, "expr {[puts a] + [puts b]}", "no number: ");
        Check.due("operands first", check.output(), "a\nb\n");
    }

    private static String quoted(String text) {
        StringBuilder all = new StringBuilder("\"");
        for (char c : text.toCharArray()) {
            if ("[]$\"{}\\".indexOf(c) >= 0) {
                all.append('\\');
            }
            all.append(c);
        }
        return all.append('"').toString();
    }

    private static void nesting() {
        value("(".repeat(50) + "1" + ")".repeat(50), "1");
        fault("(".repeat(51) + "1" + ")".repeat(51), "too deep");
        fault("(".repeat(51), "too deep");
        fault("1 1" + "(".repeat(51), "bad expression");
        value("-".repeat(50) + "1", "1");
        fault("-".repeat(51) + "1", "too deep");
        value("1" + "**1".repeat(50), "1");
        fault("1" + "**1".repeat(51), "too deep");
        value("0?1:".repeat(50) + "1", "1");
        fault("0?1:".repeat(51) + "1", "too deep");
        value("1?".repeat(50) + "1" + ":0".repeat(50), "1");
        fault("1?".repeat(51) + "1" + ":0".repeat(51), "too deep");
        value("1" + "+1".repeat(200), "201");
        value("1" + "+(1)".repeat(200), "201");
        value("1" + "+-1".repeat(60), "-59");
        fault("[".repeat(51), "bad expression");
        value("min(".repeat(50) + "1" + ")".repeat(50), "1");
        fault("min(".repeat(51) + "1" + ")".repeat(51), "too deep");
    }
}
