/** The boundary cases of part V: operands, operators, how deep they stand, INTEGERS at both ends; and what part VIII tells of them. */
public final class BoundsExpressionTest {
    private static final String MOST = "9223372036854775807";
    private static final String LEAST = "\"-9223372036854775808\"";

    public static void main(String[] args) {
        integers();
        values();
        words();
        functions();
        between();
        binding();
        fromTheRight();
        bad();
        cutWrong();
        tooDeep();
        tooDeepFirst();
        needed();
        sums();
        products();
        powers();
        shifts();
        bits();
        divisions();
        truths();
        compared();
        letters();
        elements();
        leftFirst();
        whatComes();
        Check.end();
    }

    private static void value(String expression, String due) {
        Check.well("set a 5; expr {" + expression + "}", due);
    }

    private static void fault(String expression, String due) {
        Check.error("set a 5; expr {" + expression + "}", due);
    }

    private static void integers() {
        Check.sentence("Operands: INTEGERS (without + - ; no NAME LETTER just behind).");
        value("0", "0");
        value("007", "7");
        value("0x1f", "31");
        value("0b11", "3");
        value("0o17", "15");
        value(MOST, MOST);
        fault("9223372036854775808", "bad expression");
        value("0x7fffffffffffffff", MOST);
        fault("0x8000000000000000", "bad expression");
        fault("-9223372036854775808", "bad expression");
        fault("99999999999999999999", "bad expression");
        for (char letter : "azAZ_".toCharArray()) {
            fault("1" + letter, "bad expression");
            fault("0x1" + (letter == 'a' || letter == 'A' ? 'g' : letter), "bad expression");
        }
        for (String pair : new String[] {"0x", "0b", "0o", "0b2", "0o8", "0xg", "0X1", "0B1", "0O1", "08x", "1.5", "1e5", "1 1"}) {
            fault(pair, "bad expression");
        }
        value("08", "8");
        value("1+1", "2");
        value("1>0", "1");
        value("1 eq 1", "1");
        fault("1eq 1", "bad expression");
        value("{1}eq 1", "1");
        value("1\\\n", "1");
        value("+1", "1");
        value("-1", "-1");
        value("1- -1", "2");
        value("1--1", "2");
    }

    private static void values() {
        Check.sentence("$ and [ ] as in words; \" \" and { } as words; ( an expression ).");
        value("$a", "5");
        value("${a}", "5");
        value("$a+$a", "10");
        fault("$a$a", "bad expression");
        fault("$", "bad expression");
        fault("$.", "bad expression");
        fault("$(", "bad expression");
        fault("$b", "no name: b");
        fault("$b(1)", "no name: b(1)");
        fault("$a(1)", "no array: a");
        value("[list]", "");
        value("[]", "");
        value("[list 1; list 2]", "2");
        value("\"\"", "");
        value("{}", "");
        value("\"$a[list b]\\x41\"", "5bA");
        value("{$a[list b]\\x41}", "$a[list b]\\x41");
        value("\"1\"+{2}", "3");
        fault("{1}2", "bad expression");
        fault("\"1\"2", "bad expression");
        fault("{1}{2}", "bad expression");
        value("(1)", "1");
        value("((1))", "1");
        fault("()", "bad expression");
        fault("(1", "bad expression");
        fault("1)", "bad expression");
        value("{1}", "1");
        value("{1}==1", "1");
        value("\"a\"eq\"a\"", "1");
        value("(1)eq(1)", "1");
        Check.error("expr \"\\{1\"", "bad expression");
        Check.error("expr {\"1}", "bad expression");
        Check.error("expr {[list 1}", "bad expression");
        Check.error("expr {$a(1}", "bad expression");
        Check.error("expr \"\\$\\{a\"", "bad expression");
    }

    private static void words() {
        Check.sentence("true false yes no on off. Words (operators, true ..) have no NAME LETTER just behind.");
        for (String word : "true false yes no on off".split(" ")) {
            value(word, word);
            value("!!" + word, "true yes on".contains(word) ? "1" : "0");
            value(word + "||0", "true yes on".contains(word) ? "1" : "0");
            value(word + " eq {" + word + "}", "1");
            for (char letter : "azAZ09_".toCharArray()) {
                fault(word + letter, "bad expression");
            }
        }
        for (String word : new String[] {"True", "t", "tru", "y", "of", "o", "a", "_", "abs", "min", "max", "eq", "in"}) {
            fault(word, "bad expression");
        }
        for (String word : "eq ne in ni".split(" ")) {
            value("1 " + word + " 1", word.equals("eq") || word.equals("in") ? "1" : "0");
            value("1 " + word + "\"1\"", word.equals("eq") || word.equals("in") ? "1" : "0");
            value("1 " + word + "(1)", word.equals("eq") || word.equals("in") ? "1" : "0");
            fault("1 " + word + "1", "bad expression");
            fault("1 " + word + "_", "bad expression");
            fault("1 " + word + "a", "bad expression");
        }
        fault("1 e 1", "bad expression");
        fault("1 EQ 1", "bad expression");
        fault("1 n 1", "bad expression");
        fault("1 i 1", "bad expression");
    }

    private static void functions() {
        Check.sentence("abs ( E ), min ( E , .. ), max ( E , .. ) with one or more.");
        value("abs(0)", "0");
        value("abs(-5)", "5");
        value("abs ( 5 )", "5");
        fault("abs()", "bad expression");
        fault("abs(1,2)", "bad expression");
        fault("abs 1", "bad expression");
        fault("abs(1", "bad expression");
        fault("abs(1,", "bad expression");
        fault("absx(1)", "bad expression");
        fault("Abs(1)", "bad expression");
        for (String name : new String[] {"min", "max"}) {
            value(name + "(7)", "7");
            value(name + "(7,7)", "7");
            value(name + "(1,2,3)", name.equals("min") ? "1" : "3");
            value(name + "(3,2,1)", name.equals("min") ? "1" : "3");
            value(name + "(-1," + LEAST + "," + MOST + ")", name.equals("min") ? "-9223372036854775808" : MOST);
            fault(name + "()", "bad expression");
            fault(name + "(1,)", "bad expression");
            fault(name + "(,1)", "bad expression");
            fault(name + "(1 2)", "bad expression");
            fault(name + "(1,2", "bad expression");
            fault(name + " 1", "bad expression");
        }
        fault("(1,2)", "bad expression");
        fault("1,2", "bad expression");
        value("min(1 ? 2 : 3, 4)", "2");
        value("min(0x10, 017)", "16");
        fault("abs(" + LEAST + ")", "too great");
        value("abs(-" + MOST + ")", MOST);
    }

    private static void between() {
        Check.sentence("WHITE and GAPS may stand between.");
        for (String white : new String[] {" ", "\t", "\n", "\u000b", "\f", "\r", "\\\n", "\\\n  \t"}) {
            value(white + "1" + white + "+" + white + "(" + white + "2" + white + ")" + white + "*" + white + "abs" + white + "(" + white + "3" + white + ")"
                + white, "7");
            value("1" + white + "?" + white + "2" + white + ":" + white + "3", "2");
        }
        // In { } a GAP is read ahead of all: here it is in the expression itself.
        for (String gap : new String[] {"\\\n", "\\\n \t\u000b\f\r", "\\\n\\\n"}) {
            Check.well("expr " + quoted(gap + "1" + gap + "+" + gap + "abs" + gap + "(" + gap + "2" + gap + ")" + gap), "3");
            Check.well("expr " + quoted("\"a" + "\\\n  " + "b\""), "a b");
            Check.well("expr " + quoted("{a" + "\\\n  " + "b}"), "a b");
            Check.well("expr " + quoted("1" + gap + "eq" + gap + "1"), "1");
        }
        Check.error("expr " + quoted("1 \\ + 2"), "bad expression");
        Check.error("expr " + quoted("1 \\\\\n + 2"), "bad expression");
        for (String letter : new String[] {"\b", "\u000e", "\u0000", "\\", "\\ ", ";", "#"}) {
            fault("1" + letter + "+1", "bad expression");
        }
        fault("1 # a", "bad expression");
        fault("1 < = 2", "bad expression");
        fault("1 & & 2", "bad expression");
        fault("2 * * 2", "bad expression");
        fault("", "bad expression");
        fault(" \n\t", "bad expression");
    }

    private static void binding() {
        Check.sentence("Operators, those that bind more first: - + ~ ! ahead of an operand; ** ; * / % ; + - ; << >> ; < > <= >= ; == != ; eq ne ;"
            + " in ni ; & ; ^ ; | ; && ; || ; E ? E : E");
        String[][] due = {{"-2**2", "4"}, {"!0+1", "2"}, {"~1**2", "4"}, {"2**3*2", "16"}, {"2*3**2", "18"}, {"2*3+1", "7"},
            {"1+2*3", "7"}, {"7%4*2", "6"}, {"2*7%4", "2"}, {"8/4*2", "4"}, {"1<<2+1", "8"}, {"1+1<<2", "8"}, {"16>>1+1", "4"}, {"1<2<<1", "1"},
            {"4<<1<9", "1"}, {"3>2>1", "0"}, {"1<2==1", "1"}, {"2==1<2", "0"}, {"1==1>0", "1"}, {"0==1 eq 0", "1"}, {"1 eq 1==1", "1"},
            {"2 eq 2==2", "0"}, {"1 eq 2 in 0", "1"}, {"0 in 1 eq 2", "1"}, {"1 in 1 & 2", "0"}, {"2 & 1 in 1", "0"}, {"3 & 1 in 1", "1"},
            {"6^3&1", "7"}, {"1&3^6", "7"}, {"1|2^2", "1"}, {"2^2|1", "1"}, {"1|0&&0", "0"}, {"0&&0|1", "0"}, {"1||0&&0", "1"}, {"0&&0||1", "1"},
            {"0||1?2:3", "2"}, {"1?0||5:3", "1"}, {"1-1-1", "-1"}, {"8/2/2", "2"}, {"1<<1<<1", "4"}, {"-1-1", "-2"}, {"- -1", "1"}, {"!!5", "1"},
            {"~-1", "0"}, {"-~1", "2"}, {"5-+3", "2"}, {"1<=1>=1", "1"}, {"1!=2==1", "1"}, {"1 ne 2 eq 1", "1"}, {"1 ni 2 in 1", "1"}, {"7&3&1", "1"},
            {"7^3^1", "5"}, {"1|2|4", "7"}, {"2**1&&1", "1"}};
        for (String[] pair : due) {
            value(pair[0], pair[1]);
        }
    }

    private static void fromTheRight() {
        Check.sentence("** (from the right); E ? E : E (from the right).");
        value("2**3**2", "512");
        value("(2**3)**2", "64");
        value("2**2**0", "2");
        value("1?2:0?3:4", "2");
        value("0?2:0?3:4", "4");
        value("0?2:1?3:4", "3");
        value("1?1?2:3:4", "2");
        value("1?0?2:3:4", "3");
        value("0?1?2:3:4", "4");
        fault("1?2", "bad expression");
        fault("1?2:", "bad expression");
        fault("1?:2", "bad expression");
        fault("?1:2", "bad expression");
        fault("1:2", "bad expression");
        fault("1?2:3:4", "bad expression");
        fault("1?(2:3)", "bad expression");
        fault("(1?2):3", "bad expression");
        value("1?2:3?4:5", "2");
        value("2**-0", "1");
        value("2**+2", "4");
        value("2**!0", "2");
    }

    private static void bad() {
        Check.sentence("What isn't so is \"bad expression\".");
        for (String text : new String[] {"1 +", "+", "* 1", "1 */ 2", "1 2", "1 (2)", "(1)(2)", "(1)2", "1(2)", "a", "a(1)", "1 = 1", "1 === 1", "1 => 1",
            "1 <> 1", "1 !1", "1 ~ 1", "!", "~", "1 && ", "&& 1", "1 &&& 1", "1 ||| 1", "1 ? 2 : 3 :", "]", "}", "1 ]", "@", "1 @ 1", "'a'", "1;", "\\", "1 \\"}) {
            Check.error("expr " + quoted(text), "bad expression");
        }
        Check.error("expr {}", "bad expression");
        Check.error("if {} {}", "bad expression");
        Check.error("while {} {}", "bad expression");
        Check.error("for {} {} {} {}", "bad expression");
        Check.error("expr 1 +", "bad expression");
        Check.well("expr 1 + 1", "2");
    }

    private static String quoted(String text) {
        StringBuilder row = new StringBuilder("\"");
        for (char c : text.toCharArray()) {
            row.append("\\x").append(Integer.toHexString(256 + c).substring(1));
        }
        return row.append('"').toString();
    }

    private static void cutWrong() {
        Check.sentence("It is cut as a whole ahead of all; in \" \" [ ] ( of names) wrong things are that, too.");
        Check check = new Check();
        check.writes(1, "expr {[puts a] +}", "");
        check.writes(1, "expr {[puts a] + 1 1}", "");
        check.writes(1, "if {[puts a] } {} elseif {+} {}", "a\n");
        for (String text : new String[] {"[list {a}b]", "[list \"a\"b]", "[list", "[list {]", "\"[list {a}b]\"", "\"[list\"", "$a([list {a}b])", "$a(1",
            "\"$a(1\"", "1 + [list {a}b]", "${a", "\"${a\"", "0 && [list {a}b]", "[".repeat(51) + "]".repeat(51), "$a(".repeat(51) + ")".repeat(51)}) {
            Check.error("expr " + quoted(text), "bad expression");
        }
        value("\"[list {a} b]\"", "a b");
        Check.well("set a(x) x; expr {" + "$a(".repeat(50) + "x" + ")".repeat(50) + "}", "x");
        Check.well("expr {" + "[list ".repeat(50) + "x" + "]".repeat(50) + "}", "x");
    }

    private static void tooDeep() {
        Check.sentence("At most 50 are within one another (\"too deep\", where the next one is met) of: ( ) also of functions; an operator ahead of"
            + " an operand; the right side of a ** ; what is between ? and : and behind that.");
        String[][] kinds = {{"(", "1", ")"}, {"abs(", "1", ")"}, {"min(", "1", ")"}, {"max(2,", "3", ")"}, {"-", "1", ""}, {"+", "1", ""}, {"~", "1", ""},
            {"!", "1", ""}, {"1**", "1", ""}, {"1?", "1", ":2"}, {"0?2:", "1", ""}};
        String[] due = {"1", "1", "1", "3", "1", "1", "1", "1", "1", "1", "1"};
        for (int i = 0; i < kinds.length; i++) {
            String[] kind = kinds[i];
            value(kind[0].repeat(50) + kind[1] + kind[2].repeat(50), due[i]);
            fault(kind[0].repeat(51) + kind[1] + kind[2].repeat(51), "too deep");
            for (String[] other : kinds) {
                // An operator ahead of an operand binds more than ** , and that more than ?: : these are around no others then.
                boolean ahead = "-+~!".contains(kind[0]);
                boolean around = !(ahead && other[0].equals("1**")) && !((ahead || kind[0].equals("1**")) && other[0].contains("?"));
                String inner = other[0].repeat(25) + other[1] + other[2].repeat(25);
                Check check = new Check();
                check.evaluate("expr {" + kind[0].repeat(25) + inner + kind[2].repeat(25) + "}");
                Check.due(kind[0] + " and " + other[0], check.result().equals("too deep"), false);
                check.evaluate("expr {" + kind[0].repeat(26) + inner + kind[2].repeat(26) + "}");
                Check.due(kind[0] + " around " + other[0], check.result().equals("too deep"), around);
            }
        }
        // What is ended counts no more, and nothing that isn't within another.
        for (String ended : new String[] {"1+", "1<1+", "(1)+", "-1+", "1**1+", "1**1**1+", "(0?1:2)+", "abs(1)+", "min(1,2)+", "(1?-(2):3)*", "1&&", "0||", "!1|",
            "(1?2:3)**1*"}) {
            Check check = new Check();
            check.evaluate("expr {" + ended.repeat(3) + "(".repeat(50) + "1" + ")".repeat(50) + "}");
            Check.due(ended + " ahead of 50", check.result().equals("too deep"), false);
            fault(ended.repeat(3) + "(".repeat(51) + "1" + ")".repeat(51), "too deep");
        }
        value("1?2:" + "(".repeat(49) + "1" + ")".repeat(49), "2");
        fault("1?2:" + "(".repeat(50) + "1" + ")".repeat(50), "too deep");
        value("1?" + "(".repeat(49) + "1" + ")".repeat(49) + ":2", "1");
        fault("1?" + "(".repeat(50) + "1" + ")".repeat(50) + ":2", "too deep");
        value("1**" + "(".repeat(49) + "1" + ")".repeat(49), "1");
        fault("1**" + "(".repeat(50) + "1" + ")".repeat(50), "too deep");
        value("1**1**" + "(".repeat(48) + "1" + ")".repeat(48), "1");
        fault("1**1**" + "(".repeat(49) + "1" + ")".repeat(49), "too deep");
        value("(1)+".repeat(60) + "1", "61");
        value("-1+".repeat(60) + "1", "-59");
        value("1**1+".repeat(60) + "1", "61");
        value("abs(1)+".repeat(60) + "1", "61");
        value("1+".repeat(60) + "1", "61");
        value("(0?1:2)+".repeat(60) + "1", "121");
        value("(".repeat(50) + "1+1" + ")".repeat(50), "2");
        value("(".repeat(49) + "(1)+(1)" + ")".repeat(49), "2");
        Check.well("expr {" + "(".repeat(50) + "[expr {" + "(".repeat(50) + "7" + ")".repeat(50) + "}]" + ")".repeat(50) + "}", "7");
    }

    private static void tooDeepFirst() {
        Check.sentence("(\"too deep\", where the next one is met)");
        fault("(".repeat(51), "too deep");
        fault("(".repeat(50), "bad expression");
        fault("1 1 " + "(".repeat(51), "bad expression");
        fault("(".repeat(51) + " 1 1", "too deep");
        fault("-".repeat(51), "too deep");
        fault("-".repeat(50), "bad expression");
        fault("1" + "**1".repeat(51) + " 1", "too deep");
        fault("1" + "**1".repeat(50) + " 1", "bad expression");
        fault("1?".repeat(51), "too deep");
        fault("1?".repeat(50), "bad expression");
        fault("0 && " + "(".repeat(51) + "1" + ")".repeat(51), "too deep");
    }

    private static void needed() {
        Check.sentence("Worked from the left; && || ?: only as far as they are needed.");
        Check check = new Check();
        String put = "proc p {t v} {puts -nonewline $t; set v};";
        check.writes(0, put + "expr {[p a 0] && [p b 1] || [p c 1] && [p d 0]}", "acd");
        check.writes(0, put + "expr {[p a 1] || [p b 1] && [p c 1]}", "a");
        check.writes(0, put + "expr {[p a 0] ? [p b 1] : [p c 2]}", "ac");
        check.writes(0, put + "expr {[p a 1] ? [p b 1] : [p c 2]}", "ab");
        check.writes(0, put + "expr {[p a 1] + [p b 1] * [p c 2] ** [p d 2]}", "abcd");
        check.writes(0, put + "expr {max([p a 1], [p b 1], [p c 1])}", "abc");
        check.writes(0, put + "expr {[p a 1] ? [p b 0] ? [p c 1] : [p d 2] : [p e 3]}", "abd");
        value("0 && [error e]", "0");
        value("1 || [error e]", "1");
        value("1 ? 2 : [error e]", "2");
        value("0 ? [error e] : 2", "2");
        fault("1 && [error e]", "e");
        fault("0 || [error e]", "e");
        fault("[error e] ? 1 : 2", "e");
        value("0 && 1/0", "0");
        fault("1 && 1/0", "divided by 0");
        value("1 || {x}", "1");
        value("0 && {x}", "0");
        Check.sentence("A truth is asked when all of its E is worked.");
        fault("1 && ({x} + 1)", "no number: x");
        check.writes(1, put + "expr {{x} && [p a 1]}", "");
        check.writes(1, put + "expr {1 && [p a x]}", "a");
    }

    private static void sums() {
        Check.sentence("What isn't within -2^63 .. 2^63 - 1 \"too great\".");
        value("9223372036854775806+1", MOST);
        fault(MOST + "+1", "too great");
        value("-9223372036854775807-1", "-9223372036854775808");
        fault(LEAST + "-1", "too great");
        fault(LEAST + "+-1", "too great");
        value(LEAST + "+0", "-9223372036854775808");
        fault("0-" + LEAST, "too great");
        value("-1-" + LEAST, MOST);
        fault("1-" + LEAST, "too great");
        value(LEAST + "+" + MOST, "-1");
        fault(MOST + "+" + MOST, "too great");
        fault(LEAST + "+" + LEAST, "too great");
        value(LEAST + "-" + LEAST, "0");
        fault("-" + LEAST, "too great");
        value("-" + MOST, "-" + MOST);
        value("+" + LEAST, "-9223372036854775808");
        value("~" + MOST, "-9223372036854775808");
        value("~" + LEAST, MOST);
    }

    private static void products() {
        Check.sentence("* / .. want INTEGERS; what isn't within -2^63 .. 2^63 - 1 \"too great\".");
        value("4611686018427387903*2", "9223372036854775806");
        fault("4611686018427387904*2", "too great");
        value("-4611686018427387904*2", "-9223372036854775808");
        fault("-4611686018427387905*2", "too great");
        value("3037000499*3037000499", "9223372030926249001");
        fault("3037000500*3037000500", "too great");
        fault(LEAST + "*-1", "too great");
        fault("-1*" + LEAST, "too great");
        value(LEAST + "*1", "-9223372036854775808");
        value(LEAST + "*0", "0");
        value("-1*" + MOST, "-" + MOST);
        fault(MOST + "*" + MOST, "too great");
        fault(LEAST + "*" + LEAST, "too great");
        value("0*" + LEAST, "0");
        value("4294967296*2147483647", "9223372032559808512");
        fault("4294967296*2147483648", "too great");
        fault("4294967296*4294967296", "too great");
    }

    private static void powers() {
        Check.sentence("A negative second one of ** << >> \"bad second\"; what isn't within -2^63 .. 2^63 - 1 \"too great\".");
        value("2**62", "4611686018427387904");
        fault("2**63", "too great");
        value("(-2)**63", "-9223372036854775808");
        fault("(-2)**64", "too great");
        value("0**0", "1");
        value("5**0", "1");
        value("0**" + MOST, "0");
        value("1**" + MOST, "1");
        value("(-1)**" + MOST, "-1");
        value("(-1)**9223372036854775806", "1");
        fault("2**" + MOST, "too great");
        fault("2**64", "too great");
        fault("4294967296**2", "too great");
        value("3**39", "4052555153018976267");
        fault("3**40", "too great");
        value("(-3)**39", "-4052555153018976267");
        value(LEAST + "**1", "-9223372036854775808");
        fault(LEAST + "**2", "too great");
        value(MOST + "**1", MOST);
        value("10**18", "1000000000000000000");
        fault("10**19", "too great");
        fault("2**-1", "bad second");
        fault("0**-1", "bad second");
        fault("1**-1", "bad second");
        fault("2**" + LEAST, "bad second");
    }

    private static void shifts() {
        Check.sentence("(<< likewise; >> by 64 or more as by 63).");
        value("1<<0", "1");
        value("1<<62", "4611686018427387904");
        fault("1<<63", "too great");
        fault("1<<64", "too great");
        fault("1<<" + MOST, "too great");
        value("-1<<63", "-9223372036854775808");
        fault("-1<<64", "too great");
        fault("-1<<65", "too great");
        fault("-2<<63", "too great");
        value("0<<63", "0");
        value("0<<64", "0");
        value("0<<" + MOST, "0");
        fault("3<<62", "too great");
        value("-3<<61", "-6917529027641081856");
        value("-2<<62", "-9223372036854775808");
        fault("-3<<62", "too great");
        fault("5<<4294967296", "too great");
        fault("1<<-1", "bad second");
        fault("0<<-1", "bad second");
        value("5>>0", "5");
        value("5>>1", "2");
        value("-5>>1", "-3");
        value(MOST + ">>62", "1");
        value(MOST + ">>63", "0");
        value(MOST + ">>64", "0");
        value(LEAST + ">>62", "-2");
        value(LEAST + ">>63", "-1");
        value(LEAST + ">>64", "-1");
        value("-1>>" + MOST, "-1");
        value("5>>4294967296", "0");
        fault("1>>-1", "bad second");
        fault("1>>" + LEAST, "bad second");
        fault("{x}<<-1", "no number: x");
        fault("1<<{x}", "no number: x");
    }

    private static void bits() {
        Check.sentence("& ^ | ~ want INTEGERS (of 64 bits).");
        value("6&3", "2");
        value("6^3", "5");
        value("6|3", "7");
        value("-1&" + MOST, MOST);
        value("-1^" + MOST, "-9223372036854775808");
        value("-1|0", "-1");
        value(LEAST + "|" + MOST, "-1");
        value("~0", "-1");
        value("~-1", "0");
    }

    private static void divisions() {
        Check.sentence("/ and % round downwards, by 0 \"divided by 0\".");
        String[][] due = {{"7", "2", "3", "1"}, {"-7", "2", "-4", "1"}, {"7", "-2", "-4", "-1"}, {"-7", "-2", "3", "-1"}, {"6", "2", "3", "0"},
            {"-6", "2", "-3", "0"}, {"6", "-2", "-3", "0"}, {"-6", "-2", "3", "0"}, {"0", "5", "0", "0"}, {"0", "-5", "0", "0"}, {"1", "2", "0", "1"},
            {"-1", "2", "-1", "1"}, {"1", "-2", "-1", "-1"}, {"-1", "-2", "0", "-1"}, {MOST, "1", MOST, "0"}, {MOST, "-1", "-" + MOST, "0"},
            {LEAST, "1", "-9223372036854775808", "0"}, {LEAST, "2", "-4611686018427387904", "0"}, {LEAST, MOST, "-2", "9223372036854775806"},
            {MOST, LEAST, "-1", "-1"}, {"1", LEAST, "-1", "-9223372036854775807"}, {LEAST, LEAST, "1", "0"}, {"-1", LEAST, "0", "-1"}};
        for (String[] row : due) {
            value(row[0] + "/" + row[1], row[2]);
            value(row[0] + "%" + row[1], row[3]);
        }
        fault(LEAST + "/-1", "too great");
        value(LEAST + "%-1", "0");
        fault("1/0", "divided by 0");
        fault("1%0", "divided by 0");
        fault("0/0", "divided by 0");
        fault("0%0", "divided by 0");
        fault("1/\"-0\"", "divided by 0");
        fault("{x}/0", "no number: x");
        fault("1/{x}", "no number: x");
        fault(LEAST + "/0", "divided by 0");
    }

    private static void truths() {
        Check.sentence("! && || ?: want truths, && || ! answer 1 or 0.");
        value("!0", "1");
        value("!1", "0");
        value("!-5", "0");
        value("!{off}", "1");
        value("!{on}", "0");
        value("5 && 7", "1");
        value("5 && {no}", "0");
        value("0 || {yes}", "1");
        value("0 || {no}", "0");
        value("{true} || 0", "1");
        for (String text : new String[] {"", "x", "True", "9223372036854775808"}) {
            fault("!{" + text + "}", "no truth: " + text);
            fault("{" + text + "} && 1", "no truth: " + text);
            fault("1 && {" + text + "}", "no truth: " + text);
            fault("{" + text + "} || 1", "no truth: " + text);
            fault("0 || {" + text + "}", "no truth: " + text);
            fault("{" + text + "} ? 1 : 2", "no truth: " + text);
            value("1 ? {" + text + "} : 2", text);
        }
    }

    private static void compared() {
        Check.sentence("< > <= >= == != compare INTEGERS, if both are, else letters (bytes, the first that differ; less, if all of it stands ahead).");
        String[][] less = {{"1", "2"}, {"-1", "0"}, {"9", "10"}, {LEAST, MOST}, {LEAST, "0"}, {"{a}", "{b}"}, {"{a}", "{ab}"}, {"{}", "{a}"}, {"{}", "0"},
            {"{10}", "{9a}"}, {"{A}", "{a}"}, {"{a}", "\"\\x80\""}, {"\"\\x00\"", "\"\\x01\""}, {"\"\\x7f\"", "\"\\xff\""}, {"0x0f", "16"}, {"{ 2}", "{1}"}};
        for (String[] pair : less) {
            value(pair[0] + "<" + pair[1], "1");
            value(pair[1] + "<" + pair[0], "0");
            value(pair[0] + ">" + pair[1], "0");
            value(pair[1] + ">" + pair[0], "1");
            value(pair[0] + "<=" + pair[1], "1");
            value(pair[1] + "<=" + pair[0], "0");
            value(pair[0] + ">=" + pair[1], "0");
            value(pair[1] + ">=" + pair[0], "1");
            value(pair[0] + "==" + pair[1], "0");
            value(pair[0] + "!=" + pair[1], "1");
        }
        for (String[] pair : new String[][] {{"1", "1"}, {"16", "0x10"}, {"{+1}", "01"}, {"{-0}", "0"}, {"{a}", "{a}"}, {"{}", "{}"}, {LEAST, LEAST}}) {
            value(pair[0] + "<" + pair[1], "0");
            value(pair[0] + ">" + pair[1], "0");
            value(pair[0] + "<=" + pair[1], "1");
            value(pair[0] + ">=" + pair[1], "1");
            value(pair[0] + "==" + pair[1], "1");
            value(pair[0] + "!=" + pair[1], "0");
        }
        value("{9223372036854775808} == {09223372036854775808}", "0");
        value("{9223372036854775808} > 1", "1");
        value("{99999999999999999999} < 5", "0");
        value("{19999999999999999999} < 5", "1");
    }

    private static void letters() {
        Check.sentence("eq ne letters.");
        value("1 eq 1", "1");
        value("1 eq 01", "0");
        value("16 eq 0x10", "0");
        value("0x10 eq {0x10}", "1");
        value("{} eq \"\"", "1");
        value("{a} ne {A}", "1");
        value("{a} ne {a}", "0");
        value("{a} eq {a }", "0");
        Check.well("expr {1+1 eq 2}", "1");
        value("(0x10) eq 16", "0");
        value("0x10+0 eq 16", "1");
        value("-0 eq 0", "1");
    }

    private static void elements() {
        Check.sentence("in ni whether the right one as a list has an element of these letters.");
        value("1 in {1 2}", "1");
        value("2 in {1 2}", "1");
        value("3 in {1 2}", "0");
        value("3 ni {1 2}", "1");
        value("1 ni {1 2}", "0");
        value("1 in {}", "0");
        value("{} in {}", "0");
        value("{} in {{}}", "1");
        value("1 in {01 0x1}", "0");
        value("{a b} in {{a b}}", "1");
        value("{a b} in {a b}", "0");
        value("{a} in {ab}", "0");
        Check.error("expr {1 in \"\\{\"}", "missing brace");
        Check.error("expr {1 ni \"\\\"\"}", "missing quote");
    }

    private static void leftFirst() {
        Check.sentence("Of two operands the left one is asked for its kind first. min, max, and operators: all operands are taken first, then asked from"
            + " the left.");
        for (String operator : "+ - * / % ** << >> & ^ |".split(" ")) {
            fault("{x}" + operator + "{y}", "no number: x");
            fault("1" + operator + "{y}", "no number: y");
            fault("{x}" + operator + "1", "no number: x");
            fault("{}" + operator + "1", "no number: ");
            fault("{x}" + operator + "[error e]", "e");
            fault("9223372036854775807" + operator + "{9223372036854775808}", "no number: 9223372036854775808");
        }
        for (String name : new String[] {"min", "max"}) {
            fault(name + "({x},{y})", "no number: x");
            fault(name + "(1,{y},{z})", "no number: y");
            fault(name + "({x},[error e])", "e");
            fault(name + "({x})", "no number: x");
        }
        fault("abs({x})", "no number: x");
        fault("-{x}", "no number: x");
        fault("+{x}", "no number: x");
        fault("~{x}", "no number: x");
    }

    private static void whatComes() {
        Check.sentence("What comes of it, if it is an INTEGER, is written as that.");
        value("0x10", "16");
        value("{0x10}", "16");
        value("\"+5\"", "5");
        value("\"-0\"", "0");
        value("[list 007]", "7");
        value("{0X10}", "0X10");
        value("{ 5}", " 5");
        value("{9223372036854775808}", "9223372036854775808");
        value("{a b}", "a b");
        value("true", "true");
        value("1 ? 0b11 : 2", "3");
        Check.well("set a 0x10; expr {$a}", "16");
        Check.well("set a {}; expr {$a}", "");
    }
}
