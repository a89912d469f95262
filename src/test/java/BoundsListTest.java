import java.util.ArrayList;
import java.util.List;

/** The boundary cases of part III: lists, INTEGERS, truths, INDEXES, PATTERNS, DICTIONARIES. */
public final class BoundsListTest {
    private static final String WHITE = "\t\n\u000b\f\r ";

    public static void main(String[] args) {
        white();
        braces();
        quotes();
        plain();
        faults();
        writtenLetters();
        writtenPairs();
        integers();
        truths();
        indexes();
        indexesOfAll();
        patterns();
        sets();
        dictionaries();
        Check.end();
    }

    /** A text as the word of a script, each letter told by its number. */
    private static String word(String text) {
        StringBuilder row = new StringBuilder("\"");
        for (char c : text.toCharArray()) {
            row.append("\\x").append(Integer.toHexString(256 + c).substring(1));
        }
        return row.append('"').toString();
    }

    /** A text as a list has these elements. */
    private static void elements(String text, String... due) {
        Check check = new Check();
        check.ends(0, "set l " + word(text) + "; llength $l", "" + due.length);
        for (int i = 0; i < due.length; i++) {
            check.ends(0, "lindex $l " + i, due[i]);
        }
    }

    private static void fault(String text, String due) {
        Check.error("llength " + word(text), due);
    }

    private static void white() {
        Check.sentence("WHITE is passed by; WHITE are 9 .. 13 and 32.");
        for (int c = 0; c < 256; c++) {
            char letter = (char) c;
            if (WHITE.indexOf(letter) >= 0) {
                elements("a" + letter + "b", "a", "b");
                elements("" + letter + letter + "a" + letter + letter + "b" + letter, "a", "b");
                elements("" + letter);
            } else if (letter != '\\') {
                elements("a" + letter + "b", "a" + letter + "b");
            }
        }
        elements("");
        elements("   ");
    }

    private static void braces() {
        Check.sentence("An ELEMENT: { up to its } (counted as above, a \\ and the letter behind it passed over), the letters in between"
            + " as they are.");
        elements("{}", "");
        elements("{} {}", "", "");
        elements("{a b}", "a b");
        elements("{{a} {b}}", "{a} {b}");
        elements("{\\}}", "\\}");
        elements("{\\{}", "\\{");
        elements("{\\\\}", "\\\\");
        elements("{a\\\n  b}", "a\\\n  b");
        elements("{\"}", "\"");
        elements("a{b}", "a{b}");
        elements("a{b c}", "a{b", "c}");
        elements("}", "}");
        elements("}a{", "}a{");
        fault("{", "missing brace");
        fault("{{}", "missing brace");
        fault("{\\}", "missing brace");
        fault("{\\\\}}", "letters behind brace");
        for (char white : WHITE.toCharArray()) {
            elements("{a}" + white, "a");
            elements("{a}" + white + "b", "a", "b");
        }
        for (char letter : "b\b\u000e{}\"\\;\u0000".toCharArray()) {
            fault("{a}" + letter, "letters behind brace");
        }
    }

    private static void quotes() {
        Check.sentence("\" up to the next \" that no \\ is ahead of, with \\ substituted.");
        elements("\"\"", "");
        elements("\"a b\"", "a b");
        elements("\"a\\\"b\"", "a\"b");
        elements("\"a\\\\\"", "a\\");
        elements("\"{\"", "{");
        elements("\"\\x41\\n\\101\\q\"", "A\nAq");
        elements("\"$a [b]\"", "$a [b]");
        elements("\"a\\\n  b\"", "a b");
        elements("a\"b c\"", "a\"b", "c\"");
        fault("\"", "missing quote");
        fault("\"a", "missing quote");
        fault("\"a\\\"", "missing quote");
        fault("\"a\\", "missing quote");
        for (char white : WHITE.toCharArray()) {
            elements("\"a\"" + white, "a");
            elements("\"a\"" + white + "b", "a", "b");
        }
        for (char letter : "b\b\u000e{}\"\\;\u0000".toCharArray()) {
            fault("\"a\"" + letter, "letters behind quote");
        }
    }

    private static void plain() {
        Check.sentence("Else letters up to WHITE (a \\ and the letter behind it go together), with \\ substituted (GAPS too).");
        for (char white : WHITE.toCharArray()) {
            elements("a" + white + "b", "a", "b");
            if (white != '\n') {
                elements("a\\" + white + "b", "a" + white + "b");
            }
        }
        elements("\\x41\\x4\\xg \\101\\400 \\t", "A\u0004xg", "A\u0000", "\t");
        elements("\\{a \\}b \\\"c", "{a", "}b", "\"c");
        elements("a\\", "a\\");
        elements("\\", "\\");
        elements("\\\\ b", "\\", "b");
        elements("$a [b] #c ;d", "$a", "[b]", "#c", ";d");
        Check.sentence("In lists pairs of a \\ and a letter go from the left, a GAP goes together as a whole (also in an element without"
            + " { } and \" ).");
        elements("a\\\n  b c", "a b", "c");
        elements("a\\\n\t\u000b\f\r b", "a b");
        elements("\\\n  b", " b");
        elements("a \\\n  b", "a", " b");
        elements("a\\\n", "a ");
        elements("a\\\n\nb", "a ", "b");
        elements("a\\\\\nb", "a\\", "b");
        elements("a\\\\\\\nb", "a\\ b");
    }

    private static void faults() {
        Check.sentence("ERRORS, the first: \"missing brace\", \"missing quote\", \"letters behind brace\", \"letters behind quote\".");
        fault("{a}b \"c\"d", "letters behind brace");
        fault("\"c\"d {a}b", "letters behind quote");
        fault("{a}b {c", "letters behind brace");
        fault("a \"c {d", "missing quote");
        fault("a {c \"d", "missing brace");
        Check.sentence("A text as a LIST that is none is always that ERROR, also in dict exists and get.");
        String[] commands = {"llength L", "lindex L 0", "lrange L 0 0", "linsert L 0 a", "lreplace L 0 0", "lreverse L", "join L",
            "lassign L a", "lsearch L a", "lsort L", "foreach a L {}", "lmap a L {}", "dict get L a", "dict get L", "dict exists L a",
            "dict keys L", "dict values L", "dict size L", "dict merge L", "dict for {a b} L {}", "string map L a", "array set a L",
            "set v L; lappend v a", "set v L; lset v 0 a", "set v L; dict set v a b", "set v L; dict unset v a", "set v L; dict incr v a",
            "set v L; dict lappend v a b", "list {*}L", "expr {1 in L}", "switch a L", "apply L", "proc p L {}", "trace add variable v L x",
            "foreach L {} {}", "dict for L {} {}"};
        for (String command : commands) {
            Check.error(command.replace("L", "\"\\{a\""), "missing brace");
            Check.error(command.replace("L", "\"\\\"a\""), "missing quote");
            Check.error(command.replace("L", "\"\\{a\\}b\""), "letters behind brace");
            Check.error(command.replace("L", "\"\\\"a\\\"b\""), "letters behind quote");
        }
    }

    /** What the document says of an element that is WRITTEN, letter by letter. */
    private static String written(String element, boolean first) {
        if (element.isEmpty()) {
            return "{}";
        }
        boolean hash = first && element.charAt(0) == '#';
        boolean plain = !hash;
        int open = 0;
        boolean even = true;
        for (char c : element.toCharArray()) {
            plain = plain && (WHITE + "{}[]$;\"\\").indexOf(c) < 0;
            open += c == '{' ? 1 : c == '}' ? -1 : 0;
            even = even && open >= 0;
        }
        if (plain) {
            return element;
        }
        if (element.indexOf('\\') < 0 && even && open == 0) {
            return "{" + element + "}";
        }
        StringBuilder row = new StringBuilder();
        for (int i = 0; i < element.length(); i++) {
            char c = element.charAt(i);
            int control = "\t\n\u000b\f\r".indexOf(c);
            if (control >= 0) {
                row.append('\\').append("tnvfr".charAt(control));
            } else {
                row.append(" {}[]$;\"\\".indexOf(c) >= 0 || hash && i == 0 ? "\\" : "").append(c);
            }
        }
        return row.toString();
    }

    private static void writes(String... elements) {
        StringBuilder script = new StringBuilder("set l [list");
        StringBuilder due = new StringBuilder();
        for (int i = 0; i < elements.length; i++) {
            script.append(' ').append(word(elements[i]));
            due.append(i == 0 ? "" : " ").append(written(elements[i], i == 0));
        }
        Check check = new Check();
        check.ends(0, script.append("]").toString(), due.toString());
        for (int i = 0; i < elements.length; i++) {
            check.ends(0, "lindex $l " + i, elements[i]);
        }
    }

    private static void writtenLetters() {
        Check.sentence("WRITTEN AS A LIST: one without letters is {} ; one that has none of WHITE { } [ ] $ ; \" \\ , and isn't the first"
            + " with a # at its beginning, as it is; else .. in { } ; else with a \\ ahead.");
        for (int c = 0; c < 256; c++) {
            writes("" + (char) c, "" + (char) c, "x" + (char) c + "{");
        }
        writes();
        writes("");
        writes("", "");
        Check.well("list # #", "{#} #");
        Check.well("list a# #", "a# #");
        Check.well("list \"#{\"", "\\#\\{");
        Check.well("list {} #a", "{} #a");
        Check.well("list {a b}", "{a b}");
        Check.well("list {a{}}", "{a{}}");
    }

    private static void writtenPairs() {
        Check.sentence("If it has no \\ and each } has its { ahead of it, and each { its } , in { } ; else with a \\ ahead of BLANK { } [ ] $ ;"
            + " \" \\ and of such a # , and 9 .. 13 as \\t \\n \\v \\f \\r.");
        String letters = "a#{}[]$;\"\\ \t\n\u000b\f\r\b\u000e";
        for (char c : letters.toCharArray()) {
            for (char d : letters.toCharArray()) {
                writes("" + c + d, "" + c + d);
            }
        }
        for (String row : new String[] {"{}", "}{", "{}}", "{{}", "{}{}", "}{}{", "{ }", "{a} {b}", "#{", "#}", "#\\", "a b\\", "a\\b", "{\\}",
            "#a b{", "##", "# ", "}"}) {
            writes(row, row);
        }
    }

    private static void integer(String text, String value) {
        Check.well("string is integer " + word(text), value == null ? "0" : "1");
        if (value == null) {
            Check.error("set a " + word(text) + "; incr a 0", "no number: " + text);
            Check.error("incr a " + word(text), "no number: " + text);
        } else {
            Check.well("set a " + word(text) + "; incr a 0", value);
            Check.well("incr a " + word(text), value);
        }
    }

    private static void integers() {
        Check.sentence("An INTEGER is a text: perhaps + or - , then digits, or 0x, 0b, 0o and digits of that kind (small or capital), of"
            + " -2^63 .. 2^63 - 1; it is written by decimal digits, - ahead.");
        String[][] good = {{"0", "0"}, {"9", "9"}, {"+0", "0"}, {"-0", "0"}, {"+7", "7"}, {"-7", "-7"}, {"007", "7"}, {"08", "8"}, {"00", "0"},
            {"0x0", "0"}, {"0x9", "9"}, {"0xa", "10"}, {"0xf", "15"}, {"0xA", "10"}, {"0xF", "15"}, {"0xfF", "255"}, {"-0x10", "-16"},
            {"+0x10", "16"}, {"0b0", "0"}, {"0b1", "1"}, {"0b101", "5"}, {"-0b11", "-3"}, {"0o0", "0"}, {"0o7", "7"}, {"0o17", "15"},
            {"-0o10", "-8"}, {"9223372036854775807", "9223372036854775807"}, {"-9223372036854775808", "-9223372036854775808"},
            {"+9223372036854775807", "9223372036854775807"}, {"0x7fffffffffffffff", "9223372036854775807"},
            {"-0x8000000000000000", "-9223372036854775808"}, {"0o777777777777777777777", "9223372036854775807"},
            {"-0o1000000000000000000000", "-9223372036854775808"}, {"0b" + "1".repeat(63), "9223372036854775807"},
            {"-0b1" + "0".repeat(63), "-9223372036854775808"}, {"0".repeat(60) + "5", "5"}, {"0x" + "0".repeat(60) + "f", "15"},
            {"-" + "0".repeat(40) + "9223372036854775808", "-9223372036854775808"}};
        for (String[] pair : good) {
            integer(pair[0], pair[1]);
        }
        String[] bad = {"", "+", "-", "+-1", "--1", "-+1", "++1", " 1", "1 ", "1\n", "1a", "a", "/", ":", "1/", "1:", "1.0", "1e1", "0x", "0b", "0o",
            "-0x", "0xg", "0x/", "0x:", "0x@", "0xG", "0x`", "0b2", "0b/", "0o8", "0o/", "0X1", "0B1", "0O1", "0x-1", "0x+1", "x1", "00x1", "1_",
            "9223372036854775808", "+9223372036854775808", "-9223372036854775809", "0x8000000000000000", "-0x8000000000000001",
            "0o1000000000000000000000", "-0o1000000000000000000001", "0b1" + "0".repeat(63), "-0b1" + "0".repeat(62) + "1",
            "18446744073709551616", "18446744073709551617", "0x10000000000000000", "0x10000000000000001", "99999999999999999999999999",
            "-99999999999999999999999999", "\u0000", "1\u0000", "true"};
        for (String text : bad) {
            integer(text, null);
        }
        Check.sentence("Of 0x, 0b, 0o the digits alone may be capital.");
        integer("0xABCDEF", "11259375");
        integer("0XABCDEF", null);
    }

    private static void truths() {
        Check.sentence("TRUTH: an INTEGER that isn't 0, true, yes, on; no truth: 0, false, no, off; another text where a truth is wanted:"
            + " \"no truth: V\".");
        for (String text : new String[] {"1", "2", "-1", "0x1", "+1", "9223372036854775807", "-9223372036854775808", "true", "yes", "on"}) {
            Check.well("expr {" + word(text) + " ? 1 : 0}", "1");
            Check.well("string is boolean " + word(text), "1");
        }
        for (String text : new String[] {"0", "-0", "+0", "00", "0x0", "0b0", "0o0", "false", "no", "off"}) {
            Check.well("expr {" + word(text) + " ? 1 : 0}", "0");
            Check.well("string is boolean " + word(text), "1");
        }
        for (String text : new String[] {"", "True", "TRUE", "t", "tru", "truee", "y", "n", "of", "offf", "o", "1.0", "9223372036854775808", " 1",
            "0x", "nos", "yess", "onn", "fals"}) {
            Check.error("expr {" + word(text) + " ? 1 : 0}", "no truth: " + text);
            Check.error("if {" + word(text) + "} {}", "no truth: " + text);
            Check.error("while {" + word(text) + "} {}", "no truth: " + text);
            Check.error("for {} {" + word(text) + "} {} {}", "no truth: " + text);
            Check.well("string is boolean " + word(text), "0");
        }
    }

    private static void indexes() {
        Check.sentence("An INDEX of n things is an INTEGER, end (n - 1), end- or end+ and digits (an INTEGER): else \"bad index: V\".");
        String[][] due = {{"0", "a"}, {"2", "c"}, {"3", ""}, {"-1", ""}, {"+0", "a"}, {"-0", "a"}, {"0x2", "c"}, {"0x3", ""}, {"end", "c"},
            {"end-0", "c"}, {"end-1", "b"}, {"end-2", "a"}, {"end-3", ""}, {"end+0", "c"}, {"end+1", ""}, {"end-00", "c"}, {"end-002", "a"},
            {"9223372036854775807", ""}, {"-9223372036854775808", ""}, {"end-9223372036854775807", ""}, {"end+9223372036854775807", ""},
            {"4294967296", ""}, {"4294967297", ""}, {"-4294967295", ""}, {"end-4294967296", ""}, {"end+4294967294", ""}};
        for (String[] pair : due) {
            Check.well("lindex {a b c} " + pair[0], pair[1]);
            Check.well("string index abc " + pair[0], pair[1]);
        }
        for (String bad : new String[] {"", "x", "e", "en", "End", "ende", "end0", "end-", "end+", "end--1", "end-+1", "end+-1", "end- 1", "end -1",
            " 0", "0 ", "0.0", "end-x", "end-1x", "end*1", "9223372036854775808", "-9223372036854775809", "end-9223372036854775808",
            "end+9223372036854775808", "1+1", "end-1-1", "0x", "--1"}) {
            Check.error("lindex {a b c} " + word(bad), "bad index: " + bad);
            Check.error("string index abc " + word(bad), "bad index: " + bad);
        }
        Check.well("lindex {} end", "");
        Check.well("lindex {} 0", "");
        Check.well("lindex {} end+1", "");
        Check.well("string index {} end", "");
        Check.well("string index {} end+1", "");
    }

    private static void indexesOfAll() {
        Check.sentence("An INDEX: else \"bad index: V\" (of each command that takes one, the left one first).");
        for (String command : new String[] {"set l {a b}; lset l I x", "lrange {a b} I 0", "lrange {a b} 0 I", "linsert {a b} I x",
            "lreplace {a b} I 0", "lreplace {a b} 0 I", "string range ab I 0", "string range ab 0 I"}) {
            Check.error(command.replace("I", "end-"), "bad index: end-");
            Check.error(command.replace("I", "x"), "bad index: x");
            Check.error(command.replace("I", "9223372036854775808"), "bad index: 9223372036854775808");
            Check.error(command.replace("I", "end-9223372036854775808"), "bad index: end-9223372036854775808");
        }
        Check.error("lrange {a b} x y", "bad index: x");
        Check.error("lreplace {a b} x y", "bad index: x");
        Check.error("string range ab x y", "bad index: x");
    }

    private static void fits(String pattern, String text, int due) {
        Check.well("string match " + word(pattern) + " " + word(text), "" + due);
    }

    private static void patterns() {
        Check.sentence("A PATTERN fits a text: * any letters, ? one, .. \\ and a letter that letter, others themselves; all of it.");
        String[][] good = {{"", ""}, {"*", ""}, {"*", "abc"}, {"**", ""}, {"?", "a"}, {"??", "ab"}, {"?*", "a"}, {"*?", "a"}, {"a*", "a"}, {"*a", "a"},
            {"a*b", "ab"}, {"a*b", "axxb"}, {"*ab*ab*", "xabab"}, {"*ab", "aab"}, {"a?b", "axb"}, {"\\*", "*"}, {"\\?", "?"}, {"\\[", "["},
            {"\\\\", "\\"}, {"\\a", "a"}, {"a\\", "a\\"}, {"]", "]"}, {"-", "-"}, {"?", "\u0000"}, {"?", "\u00ff"}, {"*\\", "x\\"}, {"A", "A"},
            {"*?*?*", "ab"}, {"***a", "a"}, {"a-z", "a-z"}, {"\n", "\n"}, {"*", "a\nb"}};
        for (String[] pair : good) {
            fits(pair[0], pair[1], 1);
        }
        String[][] bad = {{"", "a"}, {"a", ""}, {"?", ""}, {"?", "ab"}, {"??", "a"}, {"a", "ab"}, {"ab", "a"}, {"a*b", "a"}, {"a*b", "abc"},
            {"*a", "ab"}, {"a*", "ba"}, {"\\*", "a"}, {"\\*", "\\*"}, {"a\\", "a"}, {"\\", "a"}, {"A", "a"}, {"*?*?*", "a"}, {"*ab*ab*", "ab"}, {"*ab*bx", "abx"}, {"a*ab", "ab"}, {"*aba*aba", "ababa"},
            {"a*b*a*b", "aab"}, {"*?a*?a", "ba"},
            {"a-z", "b"}};
        for (String[] pair : bad) {
            fits(pair[0], pair[1], 0);
        }
    }

    private static void sets() {
        Check.sentence("[ and letters up to ] one of these (a-z those between, both included, either way round). A [ without ] fits nothing."
            + " In [ ] of a PATTERN a \\ is itself, a - that has no letter but ] behind it too; [] fits none.");
        String[][] good = {{"[a]", "a"}, {"[abc]", "c"}, {"[b-d]", "b"}, {"[b-d]", "c"}, {"[b-d]", "d"}, {"[d-b]", "b"}, {"[d-b]", "d"}, {"[b-b]", "b"},
            {"[a-]", "-"}, {"[a-]", "a"}, {"[-a]", "-"}, {"[-a]", "a"}, {"[-]", "-"}, {"[\\]", "\\"}, {"[\\]]", "\\]"}, {"[a-c-e]", "b"},
            {"[a-c-e]", "-"}, {"[a-c-e]", "e"}, {"[*]", "*"}, {"[?]", "?"}, {"[[]", "["}, {"[^a]", "^"}, {"[^a]", "a"}, {"[!a]", "!"},
            {"[\u0080-\u00ff]", "\u00ff"}, {"[\u0080-\u00ff]", "\u0080"}, {"[\u0000-\u00ff]", "a"}, {"[a-bc-d]", "d"}, {"*[0-9]", "a7"},
            {"[ab][cd]", "bc"}, {"[a-z]*", "q"}, {"[\\-^]", "]"}, {"[--0]", "."}, {"[+--]", ","}, {"[a--]", "E"}};
        for (String[] pair : good) {
            fits(pair[0], pair[1], 1);
        }
        String[][] bad = {{"[a]", "b"}, {"[a]", ""}, {"[a]", "aa"}, {"[b-d]", "a"}, {"[b-d]", "e"}, {"[d-b]", "a"}, {"[d-b]", "e"}, {"[b-d]", "-"},
            {"[a-c-e]", "d"}, {"[]", ""}, {"[]", "a"}, {"[]", "[]"}, {"[]a]", "a"}, {"[]a]", "a]"}, {"[]]", "]"}, {"[a", "a"}, {"[a", "[a"},
            {"[", "["}, {"[", ""}, {"*[a", "a"}, {"*[", ""}, {"[\\]", "]"}, {"[\\a]", "b"}, {"[\u0080-\u00ff]", "\u007f"}, {"[\u0080-\u00ff]", "a"},
            {"[^a]", "b"}, {"[a-", "a"}, {"x[a", "y"}, {"[*]", "a"}};
        for (String[] pair : bad) {
            fits(pair[0], pair[1], 0);
        }
    }

    private static void dictionaries() {
        Check.sentence("A DICTIONARY is a list of an even number of elements (\"no dictionary\" else).");
        List<String> commands = new ArrayList<>(List.of("dict get D", "dict size D", "dict keys D", "dict values D", "dict merge D",
            "dict exists D q", "dict for {k v} D {}", "array set a D", "string map D x", "set v D; dict set v q 1", "set v D; dict unset v q",
            "set v D; dict incr v q", "set v D; dict lappend v q 1"));
        for (String command : commands) {
            Check.error(command.replace("D", "a"), "no dictionary");
            Check.error(command.replace("D", "{a 1 b}"), "no dictionary");
            Check.due(command, new Check().evaluate(command.replace("D", "{}")), 0);
            Check.due(command, new Check().evaluate(command.replace("D", "{a 1}")), 0);
        }
        Check.error("dict get a a", "no dictionary");
        Check.sentence("Of a key told twice the later value at the first one's place. It is WRITTEN as a list of these.");
        Check.well("dict get {a 1 b 2 a 3}", "a 3 b 2");
        Check.well("dict get {a 1 b 2 a 3 b 4 a 5} a", "5");
        Check.well("dict size {a 1 b 2 a 3}", "2");
        Check.well("dict keys {a 1 b 2 a 3}", "a b");
        Check.well("dict values {a 1 b 2 a 3}", "3 2");
        Check.well("dict create a 1 b 2 a 3", "a 3 b 2");
        Check.well("dict get {}", "");
        Check.well("dict get { a   {b c} {} {} }", "a {b c} {} {}");
        Check.well("dict get {{#} 1}", "{#} 1");
        Check.well("dict get {a\\ b 1 {a b} 2 \"a b\" 3}", "{a b} 3");
    }
}
