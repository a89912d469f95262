/** The boundary cases of part VII: string, subst and puts. */
public final class BoundsLetterTest {
    private static final String MOST = "9223372036854775807";
    private static final String LEAST = "-9223372036854775808";

    public static void main(String[] args) {
        lengths();
        places();
        compared();
        maps();
        repeats();
        cases();
        trims();
        classes();
        otherClasses();
        substs();
        output();
        Check.end();
    }

    private static String letter(int c) {
        return "\\x" + Integer.toHexString(256 + c).substring(1);
    }

    private static void lengths() {
        Check.sentence("string: length T; index T I (none outside); reverse T; cat V ..");
        Check.well("string length {}", "0");
        Check.well("string length a", "1");
        Check.well("string length \\x00\\xff", "2");
        Check.well("string index abc 0", "a");
        Check.well("string index abc 2", "c");
        Check.well("string index abc 3", "");
        Check.well("string index abc -1", "");
        Check.well("string index {} 0", "");
        Check.well("string reverse {}", "");
        Check.well("string reverse a", "a");
        Check.well("string reverse ab\\x00", "\u0000ba");
        Check.well("string cat", "");
        Check.well("string cat {} {}", "");
        Check.well("string cat a { b } {}", "a b ");
    }

    private static void places() {
        Check.sentence("first S T, last S T: where S stands first, last; -1, also for S without letters.");
        String[][] due = {{"a", "a", "0", "0"}, {"a", "b", "-1", "-1"}, {"a", "{}", "-1", "-1"}, {"{}", "{}", "-1", "-1"}, {"{}", "abc", "-1", "-1"},
            {"ab", "a", "-1", "-1"}, {"ab", "ab", "0", "0"}, {"ab", "abab", "0", "2"}, {"aa", "aaaa", "0", "2"}, {"aa", "aaa", "0", "1"}, {"c", "abc", "2", "2"},
            {"bc", "abc", "1", "1"}, {"abc", "abx", "-1", "-1"}, {"bcd", "abc", "-1", "-1"}, {"aab", "aaab", "1", "1"}, {"A", "a", "-1", "-1"},
            {"*", "a*", "1", "1"}, {"\\xff", "a\\xff\\x7f", "1", "1"}};
        for (String[] row : due) {
            Check.well("string first " + row[0] + " " + row[1], row[2]);
            Check.well("string last " + row[0] + " " + row[1], row[3]);
        }
    }

    private static void compared() {
        Check.sentence("compare A B: -1, 0, 1; equal A B; match P T.");
        String[][] due = {{"{}", "{}", "0"}, {"{}", "a", "-1"}, {"a", "{}", "1"}, {"a", "a", "0"}, {"a", "b", "-1"}, {"c", "a", "1"}, {"a", "ab", "-1"}, {"ab", "a", "1"},
            {"\\x7f", "\\x80", "-1"}, {"\\xff", "\\x00", "1"}, {"A", "a", "-1"}, {"10", "9", "-1"}, {"1", "01", "1"}, {"b", "aa", "1"}};
        for (String[] row : due) {
            Check.well("string compare " + row[0] + " " + row[1], row[2]);
            Check.well("string equal " + row[0] + " " + row[1], row[2].equals("0") ? "1" : "0");
        }
        Check.well("list [string equal * a] [string equal {[} {[}] [string equal a* a*] [string equal a A]", "0 1 1 0");
        Check.well("list [string compare * a] [string compare {[} {[}]", "-1 0");
        Check.well("string match {} {}", "1");
        Check.well("string match * {}", "1");
        Check.well("string match ? {}", "0");
        Check.well("string match a b", "0");
    }

    private static void maps() {
        Check.sentence("map D T: D a list of an even number (\"no dictionary\"): at each place, from the left, the first key (with letters) that stands there"
            + " gives way to its value.");
        Check.well("string map {} abc", "abc");
        Check.well("string map {a 1} {}", "");
        Check.well("string map {a 1} abca", "1bc1");
        Check.well("string map {abc 1} ab", "ab");
        Check.well("string map {abc 1} abc", "1");
        Check.well("string map {a 1 ab 2} ab", "1b");
        Check.well("string map {ab 2 a 1} aba", "21");
        Check.well("string map {a {}} aba", "b");
        Check.well("string map {a aa} aa", "aaaa");
        Check.well("string map {a b b a} ab", "ba");
        Check.well("string map {{} x} ab", "ab");
        Check.well("string map {{} x a y} ab", "yb");
        Check.well("string map {a 1 a 2} a", "1");
        Check.well("string map {aa x} aaa", "xa");
        Check.well("string map {A x} a", "a");
        Check.error("string map a b", "no dictionary");
        Check.error("string map {a b c} d", "no dictionary");
    }

    private static void repeats() {
        Check.sentence("repeat T I.");
        Check.well("string repeat ab 0", "");
        Check.well("string repeat ab 1", "ab");
        Check.well("string repeat ab 3", "ababab");
        Check.well("string repeat {} " + MOST, "");
        Check.error("string repeat a {}", "no number: ");
        Check.error("string repeat a end", "no number: end");
        Check.error("string repeat a 9223372036854775808", "no number: 9223372036854775808");
        Check.limit("string repeat a " + MOST);
        Check.limit("string repeat ab 4611686018427387904");
        Check.limit("string repeat a 4294967297");
        Check.well("string repeat a -1", "");
        Check.well("string repeat a " + LEAST, "");
    }

    private static void cases() {
        Check.sentence("tolower T; toupper T (ALPHA a .. z, A .. Z).");
        for (int c = 0; c < 256; c++) {
            boolean small = c >= 'a' && c <= 'z';
            boolean capital = c >= 'A' && c <= 'Z';
            Check.well("string tolower \"" + letter(c) + "\"", "" + (char) (capital ? c + 32 : c));
            Check.well("string toupper \"" + letter(c) + "\"", "" + (char) (small ? c - 32 : c));
        }
        Check.well("string tolower {}", "");
        Check.well("string toupper {}", "");
    }

    private static void trims() {
        Check.sentence("trim T [C], trimleft, trimright: letters of C (WHITE) at the ends go.");
        String[][] due = {{"{}", "", "", ""}, {"{   }", "", "", ""}, {"{ a }", "a", "a ", " a"}, {"a", "a", "a", "a"}, {"{ a b }", "a b", "a b ", " a b"},
            {"\"\\t\\n\\v\\f\\r a\\t\\n\\v\\f\\r \"", "a", "a\t\n\u000b\f\r ", "\t\n\u000b\f\r a"}, {"\"\\x08a\\x0e\"", "\ba\u000e", "\ba\u000e", "\ba\u000e"},
            {"\"\\x1fa!\"", "\u001fa!", "\u001fa!", "\u001fa!"}, {"{xax} x", "a", "ax", "xa"}, {"{xyaxy} xy", "a", "axy", "xya"}, {"{ a } {}", " a ", " a ", " a "},
            {"xx x", "", "", ""}, {"{} x", "", "", ""}, {"{xa x} x", "a ", "a x", "xa "}, {"abc d", "abc", "abc", "abc"}, {"a, xyz,", "a", "a,", "a"},
            {",a xyz,", "a", "a", ",a"}};
        for (String[] row : due) {
            Check.well("string trim " + row[0], row[1]);
            Check.well("string trimleft " + row[0], row[2]);
            Check.well("string trimright " + row[0], row[3]);
        }
    }

    private static void classes() {
        Check.sentence("alpha, digit, alnum, space (WHITE), upper, lower: 1 if all its letters are so.");
        for (int c = 0; c < 256; c++) {
            boolean small = c >= 'a' && c <= 'z';
            boolean capital = c >= 'A' && c <= 'Z';
            boolean digit = c >= '0' && c <= '9';
            boolean white = c >= 9 && c <= 13 || c == 32;
            boolean[] due = {small || capital, digit, small || capital || digit, white, capital, small};
            String[] names = {"alpha", "digit", "alnum", "space", "upper", "lower"};
            StringBuilder script = new StringBuilder("set t \"").append(letter(c)).append("\"; list");
            StringBuilder all = new StringBuilder();
            for (int i = 0; i < names.length; i++) {
                script.append(" [string is ").append(names[i]).append(" $t]");
                all.append(i == 0 ? "" : " ").append(due[i] ? 1 : 0);
            }
            Check.well(script.toString(), all.toString());
        }
        String[][] rows = {{"alpha", "aZ", "aZ1"}, {"digit", "09", "09a"}, {"alnum", "a9", "a9_"}, {"space", "{ \t}", "{ a}"}, {"upper", "AZ", "AZa"},
            {"lower", "az", "azA"}};
        for (String[] row : rows) {
            Check.well("string is " + row[0] + " {}", "1");
            Check.well("string is " + row[0] + " " + row[1], "1");
            Check.well("string is " + row[0] + " " + row[2], "0");
        }
    }

    private static void otherClasses() {
        Check.sentence("is CLASS T: integer, boolean (a truth or none), list; (\"no such: CLASS\").");
        Check.well("string is integer {}", "0");
        Check.well("string is integer 0x7fffffffffffffff", "1");
        Check.well("string is integer 0x8000000000000000", "0");
        Check.well("string is integer " + LEAST, "1");
        Check.well("string is integer -9223372036854775809", "0");
        Check.well("string is boolean {}", "0");
        Check.well("string is boolean off", "1");
        Check.well("string is boolean offf", "0");
        Check.well("string is boolean 9223372036854775808", "0");
        Check.well("string is list {}", "1");
        Check.well("string is list {a {b c}}", "1");
        Check.well("string is list \\{", "0");
        Check.well("string is list \\\"", "0");
        Check.well("string is list {{a}b}", "0");
        Check.well("string is list {\"a\"b}", "0");
        Check.error("string is foo x", "no such: foo");
        Check.error("string is xdigit x", "no such: xdigit");
    }

    private static void substs() {
        Check.sentence("subst T: T as what stands in \" \" , to its end.");
        Check.well("subst {}", "");
        Check.well("subst {a b;\"c\"{d}]#}", "a b;\"c\"{d}]#");
        Check.well("set a 1; subst {$a ${a} [list b] \\x41\\n}", "1 1 b A\n");
        Check.well("subst {a\\\n  b}", "a b");
        Check.well("subst \\\\", "\\");
        Check.well("subst a\\\\\\\\", "a\\");
        Check.well("subst {$}", "$");
        Check.well("subst {[]}", "");
        Check.well("subst {[list a; list b]}", "b");
        Check.well("set a {$b}; subst {$a}", "$b");
        Check.error("subst {[list}", "missing bracket");
        Check.error("subst {$a(}", "missing parenthesis");
        Check.error("subst \"\\$\\{a\"", "missing brace");
        Check.error("subst {[list {a}b]}", "letters behind brace");
        Check.error("subst {$n}", "no name: n");
        Check.well("list [catch {subst {a[return -level 0 -code 7 x]b}} r] $r", "7 x");
        new Check().writes(1, "subst {[puts a][list {a}b]}", "");
        new Check().writes(1, "subst {[puts a]$n[puts b]}", "a\n");
    }

    private static void output() {
        Check.sentence("puts [-nonewline] T: to the OUTPUT, and LINE; what would be beyond 3000 letters is lost.");
        Check.puts("puts a", "a\n");
        Check.puts("puts {}", "\n");
        Check.puts("puts -nonewline a", "a");
        Check.puts("puts -nonewline {}", "");
        Check.puts("puts -nonewline", "-nonewline\n");
        Check.puts("puts -nonewline -nonewline", "-nonewline");
        Check.puts("puts -nonewline [string repeat a 2999]", "a".repeat(2999));
        Check.puts("puts -nonewline [string repeat a 3000]", "a".repeat(3000));
        Check.puts("puts -nonewline [string repeat a 3001]", "a".repeat(3000));
        Check.puts("puts [string repeat a 2999]", "a".repeat(2999) + "\n");
        Check.puts("puts [string repeat a 3000]", "a".repeat(3000));
        Check.puts("puts -nonewline [string repeat a 2998]; puts bcd; puts e", "a".repeat(2998) + "bc");
        Check.puts("puts -nonewline [string repeat a 3000]; puts b", "a".repeat(3000));
        Check.puts("puts [string repeat a 9000]", "a".repeat(3000));
        Check check = new Check();
        check.writes(0, "puts [string repeat a 3000]", "a".repeat(3000));
        check.writes(0, "puts b", "b\n");
        check.writes(0, "list", "");
        check.writes(1, "puts c; error d", "c\n");
    }
}
