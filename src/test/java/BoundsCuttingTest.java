/** The boundary cases of part II: GAPS, words, SUBSTITUTIONS and the ERRORS of cutting. */
public final class BoundsCuttingTest {
    private static final String SPACES = "\t\u000b\f\r ";
    private static final String NAME_LETTERS = "abcdefghijklmnopqrstuvwxyzABCDEFGHIJKLMNOPQRSTUVWXYZ0123456789_";

    public static void main(String[] args) {
        gaps();
        gapsInside();
        aheadOfCommands();
        comments();
        endsOfCommands();
        betweenWords();
        expanded();
        behindQuotes();
        plainWords();
        letters();
        numbers();
        names();
        indexes();
        braced();
        missing();
        tooDeep();
        firstFault();
        cutAsAWhole();
        fromTheLeft();
        withoutWords();
        Check.end();
    }

    private static void gaps() {
        Check.sentence("A \\ with LINE behind it, and all SPACES behind that, are read as one BLANK (a GAP).");
        for (char space : SPACES.toCharArray()) {
            Check.well("list a\\\n" + space + "b", "a b");
            Check.well("list a\\\n" + space + space + "b", "a b");
            Check.well("list a\\\n\t\u000b\f\r " + space + "b", "a b");
            Check.well("set x \"a\\\n" + space + "b\"", "a b");
            Check.well("list {a\\\n" + space + "b}", "{a b}");
        }
        for (int c = 0; c < 256; c++) {
            if (SPACES.indexOf(c) < 0 && "\n;[]$\"\\{}#".indexOf(c) < 0) {
                Check.well("list a\\\n" + (char) c + "b", "a " + (char) c + "b");
                Check.well("set x \"a\\\n" + (char) c + "b\"", "a " + (char) c + "b");
                Check.well("set x {a\\\n" + (char) c + "b}", "a " + (char) c + "b");
            }
        }
        Check.well("list a\\\nb", "a b");
        Check.well("list a\\\n\nlist b", "b");
        Check.well("set x \"a\\\n\nb\"", "a \nb");
        Check.well("set x {a\\\n\nb}", "a \nb");
        Check.well("list a\\\n", "a");
        Check.well("list a\\\n  ", "a");
        Check.well("list a \\\n \\\n b", "a b");
        Check.well("set x \"a\\\n \\\n b\"", "a  b");
    }

    private static void gapsInside() {
        Check.sentence("A GAP wherever a script is cut, also in { }.");
        Check.well("set x {a\\\n  b}", "a b");
        Check.well("set x {a\\\\\n  b}", "a\\\\\n  b");
        Check.well("set x {a\\\\\\\n  b}", "a\\\\ b");
        Check.well("set x {{a\\\n  b}}", "{a b}");
        Check.well("set {a(x y)} 5; list $a(x\\\n  y)", "5");
        Check.well("set x [list a\\\n  b]", "a b");
        Check.well("list [list a \\\n]", "a");
        Check.well("subst \"a\\\\\n  b\"", "a b");
        Check.well("list {*}{a\\\n b}", "a b");
    }

    private static void aheadOfCommands() {
        Check.sentence("Ahead of a command SPACES, GAPS, LINES and ; are passed by.");
        for (String ahead : new String[] {" ", "\t", "\u000b", "\f", "\r", "\n", ";", "\\\n", "\\\n \\\n\n;\t;"}) {
            Check.well(ahead + "list a", "a");
            Check.well("list b;" + ahead + "list a" + ahead, "a");
            Check.well("list [" + ahead + "list a" + ahead + "]", "a");
            Check.well(ahead, "");
        }
        for (char letter : "\b\u000e\u001f!".toCharArray()) {
            Check.error(letter + "list a", "no command: " + letter + "list");
        }
        Check.error("\\ list a", "no command:  list");
    }

    private static void comments() {
        Check.sentence("A # there with all up to the next LINE (a \\ and the letter behind it go together) or the end is passed by.");
        Check.well("#list a\nlist b", "b");
        Check.well("list a;#list c", "a");
        Check.well("list a\n # list c", "a");
        Check.well("\\\n# list c", "");
        Check.well("# a;list b", "");
        Check.well("# {[\"\nlist b", "b");
        Check.well("list #a", "{#a}");
        Check.well("list a #b", "a #b");
        Check.well("# a\\\nlist b", "");
        Check.well("# a\\\nlist b\nlist c", "c");
        Check.well("# a\\\\\nlist b", "b");
        Check.well("# a\\\\\\\nlist b\nlist c", "c");
        Check.well("# a\\", "");
        Check.well("#", "");
        Check.well("list [#]\nlist a]", "a");
        Check.error("list [list a;#]", "missing bracket");
        Check.well("if 1 {#}\nlist b", "b");
    }

    private static void endsOfCommands() {
        Check.sentence("A command ends at a LINE or ; , at the script's end, or, in [ ], at the ] .");
        Check.well("list a\nlist b", "b");
        Check.well("list a;list b", "b");
        Check.well("list a\\;list b", "{a;list} b");
        Check.well("list a]", "{a]}");
        Check.well("list ]", "{]}");
        Check.well("list [list a]", "a");
        Check.well("list [list a;list b\nlist c]d", "cd");
        Check.well("list [list a\\]]", "{{a]}}");
        Check.well("list \"a;b\nc\" {d;e\nf}", "{a;b\nc} {d;e\nf}");
        Check.well("set {a(;)} 1; list $a(;)", "1");
    }

    private static void betweenWords() {
        Check.sentence("WORDS have SPACES or GAPS between; SPACES all WHITE but LINE, WHITE are 9 .. 13 and 32.");
        for (int c = 0; c < 256; c++) {
            boolean space = SPACES.indexOf(c) >= 0;
            if ("\n;[]$\"\\{}".indexOf(c) < 0) {
                Check.well("set x a" + (char) c + (space ? "" : "b"), "a" + (space ? "" : (char) c + "b"));
                Check.well("string length a" + (char) c, space ? "1" : "2");
            }
        }
        Check.well("list  a \t\u000b\f\r b ", "a b");
    }

    private static void expanded() {
        Check.sentence("{*} with another letter directly behind (no SPACE, GAP, LINE, ; , nor ] in [ ]): EXPANDED.");
        for (char space : SPACES.toCharArray()) {
            Check.well("list {*}" + space + "a", "* a");
        }
        Check.well("list {*}\\\na", "* a");
        Check.well("list {*}\n", "*");
        Check.well("list {*};", "*");
        Check.well("list {*}", "*");
        Check.well("list [list {*}]", "*");
        Check.well("list {*}]", "{]}");
        Check.well("list {*}\\x20", "");
        Check.well("list {*}\\ a", "a");
        Check.well("list {*}a", "a");
        Check.well("list {*}#", "{#}");
        Check.well("list {*}{}", "");
        Check.well("list {*}\"\"", "");
        Check.well("list {*}{a {b c}} d", "a {b c} d");
        Check.well("list {*}$", "{$}");
        Check.well("list {*}[list a b]", "a b");
        Check.well("list {*}[list a b]c", "a bc");
        Check.well("set e {}; list a {*}$e {*}[list] b {*}$e$e c", "a b c");
        Check.well("set e { }; list x; list {*}$e", "");
        Check.well("list a{*}{b}", "{a{*}{b}}");
        Check.well("list {**}", "**");
        Check.error("list {**}a", "letters behind brace");
        Check.error("list {*}{a}b", "letters behind brace");
        Check.error("list {*}\"a\"b", "letters behind quote");
        Check.error("list {*}{a", "missing brace");
        Check.error("list {*}{\"a}", "missing quote");
        Check.sentence("{*} {*}x without the BLANK: \"letters behind brace\".");
        Check.error("list {*}{*}x", "letters behind brace");
        Check.well("list {*} {*}x", "* x");
        Check.well("list {*}{*}", "*");
    }

    private static void behindQuotes() {
        Check.sentence("Behind both a SPACE, GAP, LINE, ; , the end, or in [ ] a ] must stand: else \"letters behind quote\","
            + " \"letters behind brace\".");
        for (String behind : new String[] {" ", "\t", "\u000b", "\f", "\r", "\n", ";", "\\\n", ""}) {
            Check.well("list {a}" + behind, "a");
            Check.well("list \"a\"" + behind, "a");
            Check.well("list [list {a}" + behind + "]", "a");
        }
        for (String behind : new String[] {"b", "]", "\\", "\\ ", "\\x", "{", "}", "\"", "$", "[list]", "#", "\b", "\u000e", "\u00ff"}) {
            Check.error("list {a}" + behind, "letters behind brace");
            Check.error("list \"a\"" + behind, "letters behind quote");
        }
        Check.well("list [list \"a\"]", "a");
        Check.error("list [list {a}b]", "letters behind brace");
        Check.error("list [list \"a\"b]", "letters behind quote");
        Check.sentence("{ : up to its } : each { in between has its } ; a \\ and the letter behind it are passed over.");
        Check.well("set x {}", "");
        Check.well("set x {{}}", "{}");
        Check.well("set x {a{b}c}", "a{b}c");
        Check.error("set x {{}", "missing brace");
        Check.error("set x {}}", "letters behind brace");
        Check.well("set x {\\}}", "\\}");
        Check.well("set x {\\{}", "\\{");
        Check.error("set x {\\}", "missing brace");
        Check.well("set x {\\\\}", "\\\\");
        Check.error("set x {\\\\}}", "letters behind brace");
        Check.well("set x {\"[$a;\n}", "\"[$a;\n");
        Check.sentence("\" : up to the next \" , with SUBSTITUTIONS.");
        Check.well("set x \"\"", "");
        Check.well("set x \"a\\\"b\"", "a\"b");
        Check.error("set x \"a\\\"", "missing quote");
        Check.well("set x \"a\\\\\"", "a\\");
        Check.well("set x \"[list \"a b\"]\"", "{a b}");
        Check.well("set x \"{a\"", "{a");
    }

    private static void plainWords() {
        Check.sentence("Else: up to what ends it, with SUBSTITUTIONS; \" { } in it are letters as others.");
        Check.well("set x a\"b", "a\"b");
        Check.well("set x a\"", "a\"");
        Check.well("set x a{b", "a{b");
        Check.well("set x a}b", "a}b");
        Check.well("set x }a", "}a");
        Check.well("set x a{b;", "a{b");
        Check.well("set x \\{b", "{b");
        Check.well("set x \\\"b", "\"b");
        Check.well("set x $\"", "$\"");
        Check.well("set x [list a]{b", "a{b");
    }

    private static void letters() {
        Check.sentence("\\a \\b \\f \\n \\r \\t \\v are 7, 8, 12, 10, 13, 9, 11; another letter behind \\ is itself; a \\ at the end, too.");
        String told = "abfnrtv";
        String value = "\u0007\b\f\n\r\t\u000b";
        for (int c = 0; c < 256; c++) {
            char letter = (char) c;
            if (letter == 'x' || letter == '\n' || letter >= '0' && letter <= '7') {
                continue;
            }
            char due = told.indexOf(letter) >= 0 ? value.charAt(told.indexOf(letter)) : letter;
            Check.well("set x a\\" + letter + "b", "a" + due + "b");
            Check.well("set x \"a\\" + letter + "b\"", "a" + due + "b");
        }
        Check.well("set x \\", "\\");
        Check.well("set x a\\", "a\\");
        Check.well("set x \\\\\\", "\\\\");
        Check.well("subst a\\\\", "a\\");
        Check.well("set x \\$a\\[b\\]", "$a[b]");
        Check.sentence("SUBSTITUTIONS, from the left, each once.");
        Check.well("set a {$b}; set b 1; set x $a\\$b[list {$b}]", "$b$b{$b}");
        Check.well("set x \\\\n", "\\n");
    }

    private static void numbers() {
        Check.sentence("\\x and one or two hexadecimal digits that byte.");
        for (char digit : "09afAF".toCharArray()) {
            char value = (char) Character.digit(digit, 16);
            Check.well("set y \\x" + digit, "" + value);
            Check.well("set y \\x4" + digit, "" + (char) (64 + value));
            Check.well("set y \\x4" + digit + digit, (char) (64 + value) + "" + digit);
        }
        for (int c = 0; c < 256; c++) {
            if ("0123456789abcdefABCDEF\"\\$[".indexOf(c) < 0) {
                Check.well("set y \"\\x" + (char) c + "\"", "x" + (char) c);
                Check.well("set y \"\\x4" + (char) c + "\"", "\u0004" + (char) c);
                Check.well("set y \"\\4" + (char) c + "\"", c >= '0' && c <= '7' ? "" + (char) (32 + c - '0') : "\u0004" + (char) c);
            }
        }
        Check.well("set y \\x", "x");
        Check.well("set y \\x00", "\u0000");
        Check.well("set y \\xff", "\u00ff");
        Check.well("set y \\xfff", "\u00fff");
        Check.well("set y \\X41", "X41");
        Check.sentence("\\ and one to three digits 0 .. 7 that number modulo 256.");
        String[][] due = {{"0", "\0"}, {"7", "\7"}, {"8", "8"}, {"9", "9"}, {"00", "\0"}, {"77", "?"}, {"78", "\0078"}, {"08", "\0008"},
            {"000", "\0"}, {"101", "A"}, {"1011", "A1"}, {"377", "\u00ff"}, {"400", "\0"}, {"501", "A"}, {"777", "\u00ff"}, {"3777", "\u00ff7"},
            {"118", "\t8"}, {"/", "/"}};
        for (String[] pair : due) {
            Check.well("set y \\" + pair[0], pair[1]);
            Check.well("set y \"\\" + pair[0] + "\"", pair[1]);
        }
    }

    private static void names() {
        Check.sentence("$ and a NAME (the longest row of NAME LETTERS and of : where two or more stand together).");
        for (int c = 0; c < 256; c++) {
            char letter = (char) c;
            if ("([$\"\\".indexOf(letter) >= 0) {
                continue;
            }
            boolean name = NAME_LETTERS.indexOf(letter) >= 0;
            Check.well("set a 1; set ab 2; set \"a\\x" + Integer.toHexString(256 + c).substring(1) + "\" 3; set r \"$a" + letter + "\"",
                name ? "3" : "1" + letter);
            if (letter != '{') {
                Check.well("set \"\\x" + Integer.toHexString(256 + c).substring(1) + "\" 3; set r \"$" + letter + "\"",
                    name ? "3" : "$" + letter);
            }
        }
        String set = "namespace eval a {set b 3; set {} 6}; set a 1; set b 2; set :: 5; set a: 7;";
        Check.well(set + "list $a:b", "1:b");
        Check.well(set + "list $a::b", "3");
        Check.well(set + "list $a:::b", "3");
        Check.well(set + "list $::a::b", "3");
        Check.well(set + "list $::::a::b", "3");
        Check.well(set + "list $::b", "2");
        Check.well(set + "list $:b", "{$:b}");
        Check.well(set + "list $::", "5");
        Check.well(set + "list $:::", "5");
        Check.well(set + "list $:", "{$:}");
        Check.well(set + "list $a::", "6");
        Check.well(set + "list $a: $a:.", "1: 1:.");
        Check.well(set + "list $a::b:", "3:");
        Check.well(set + "list $a::b:c", "3:c");
        Check.sentence("Another $ is itself.");
        Check.well("set x $", "$");
        Check.well("set x $.", "$.");
        Check.well("set x a$", "a$");
        Check.well("set x $$", "$$");
        Check.well("set a 1; set x $$a", "$1");
        Check.well("set x \"$\"", "$");
        Check.well("set x \"$ a\"", "$ a");
        Check.sentence("$( is these two letters.");
        Check.well("set x $(", "$(");
        Check.well("set x $()", "$()");
        Check.well("set a 1; set x $($a)", "$(1)");
    }

    private static void indexes() {
        Check.sentence("Perhaps ( , letters up to the next ) with SUBSTITUTIONS, ) : the value of that name.");
        Check.well("set a() 1; set x $a()", "1");
        Check.well("set a(b) 1; set x $a(b)c", "1c");
        Check.well("set a(b(c) 1; set x $a(b(c)", "1");
        Check.well("set a(b) 1; set x $a(b))", "1)");
        Check.well("set a(\\)) 1; set x $a(\\))", "1");
        Check.well("set a(b) 1; set b b; set x $a($b)", "1");
        Check.well("set a(b) 1; set x $a([list b])", "1");
        Check.well("set a(b) 1; set c(1) 2; set x $c($a(b))", "2");
        Check.well("set a 1; set x \"$a (b)\"", "1 (b)");
        Check.sentence("In the index of $a( ) WHITE, ; and quotes are letters.");
        Check.well("set \"a( \\t\\n\\v\\f\\r;\\\"{}'])\" 1; set x $a( \t\n\u000b\f\r;\"{}'])", "1");
        Check.well("set \"a(;])\" 1; list [list $a(;])]", "1");
        Check.well("set {a(#)} 1; set x $a(#)", "1");
    }

    private static void braced() {
        Check.sentence("${ up to the next } : likewise, the letters in between as they are.");
        Check.well("set {} 1; set x ${}", "1");
        Check.well("set {a b} 1; set x ${a b}c", "1c");
        Check.well("set a{b 1; set x ${a{b}", "1");
        Check.well("set {$a[b]} 1; set x ${$a[b]}", "1");
        Check.well("set a\\\\ 1; set x ${a\\}", "1");
        Check.well("set a(b) 1; set x ${a(b)}", "1");
        Check.well("set a 1; set x ${a}(b)", "1(b)");
        Check.error("set x ${a", "missing brace");
        Check.error("set x ${", "missing brace");
    }

    private static void missing() {
        Check.sentence("\"missing brace\" (also of ${ ), \"missing quote\", \"missing bracket\", \"missing parenthesis\" at the script's end.");
        Check.error("list {", "missing brace");
        Check.error("list {a {b}", "missing brace");
        Check.error("list \"", "missing quote");
        Check.error("list \"a b", "missing quote");
        Check.error("list [", "missing bracket");
        Check.error("list [list", "missing bracket");
        Check.error("list $a(", "missing parenthesis");
        Check.error("list $a(b", "missing parenthesis");
        Check.error("list ${a(b)", "missing brace");
        Check.sentence("(of what is open at the end the innermost)");
        Check.error("list \"[list", "missing bracket");
        Check.error("list \"[list \"", "missing quote");
        Check.error("list \"[list {", "missing brace");
        Check.error("list [list \"", "missing quote");
        Check.error("list [list $a(", "missing parenthesis");
        Check.error("list $a([", "missing bracket");
        Check.error("list $a(${", "missing brace");
        Check.error("list \"$a(", "missing parenthesis");
        Check.error("list \"$a(b)", "missing quote");
        Check.error("list [list $a(b)", "missing bracket");
    }

    private static String open(int n) {
        StringBuilder row = new StringBuilder("list ");
        for (int i = 0; i < n; i++) {
            row.append(i % 2 == 0 ? "[list " : "$a(");
        }
        return row.toString();
    }

    private static String close(int n) {
        StringBuilder row = new StringBuilder();
        for (int i = n - 1; i >= 0; i--) {
            row.append(i % 2 == 0 ? "]" : ")");
        }
        return row.toString();
    }

    private static void tooDeep() {
        Check.sentence("\"too deep\" at a [ or a ( of a name in 50 others of these.");
        Check.well("list " + "[list ".repeat(50) + "x" + "]".repeat(50), "x");
        Check.error("list " + "[list ".repeat(51) + "x" + "]".repeat(51), "too deep");
        Check.well("set a(x) x; list " + "$a(".repeat(50) + "x" + ")".repeat(50), "x");
        Check.error("set a(x) x; list " + "$a(".repeat(51) + "x" + ")".repeat(51), "too deep");
        Check.well("set a(x) x; " + open(50) + "x" + close(50), "x");
        Check.error("set a(x) x; " + open(51) + "x" + close(51), "too deep");
        Check.error("set a(x) x; " + open(52) + "x" + close(52), "too deep");
        Check.well("list " + "\"[list ".repeat(50) + "x" + "]\"".repeat(50), "x");
        Check.error("list " + "\"[list ".repeat(51) + "x" + "]\"".repeat(51), "too deep");
        Check.well("list " + "[list ".repeat(49) + "[list a][list b]" + "]".repeat(49), "ab");
        Check.well("list " + "[list ".repeat(50) + "\\[" + "]".repeat(50), "{".repeat(51) + "[" + "}".repeat(51));
        Check.well("llength {" + "[".repeat(60) + "}", "1");
        Check.error("list " + "[".repeat(50), "missing bracket");
        Check.error("list " + "[".repeat(51), "too deep");
        Check.error("list " + "$a(".repeat(50), "missing parenthesis");
        Check.error("list " + "$a(".repeat(51), "too deep");
        Check.well("subst " + "{" + "[list ".repeat(50) + "x" + "]".repeat(50) + "}", "x");
        Check.error("subst " + "{" + "[list ".repeat(51) + "x" + "]".repeat(51) + "}", "too deep");
    }

    private static void firstFault() {
        Check.sentence("Of faults of cutting the first that is met from the left counts.");
        Check.error("list {a}b \"c\"d", "letters behind brace");
        Check.error("list \"c\"d {a}b", "letters behind quote");
        Check.error("list {a}b {", "letters behind brace");
        Check.error("list [list {a}b", "letters behind brace");
        Check.error("list \"[list {a}b", "letters behind brace");
        Check.error("list $a([list \"b\"c", "letters behind quote");
        Check.error("list {a}b" + "[".repeat(51), "letters behind brace");
        Check.error("list " + "[".repeat(51) + "{a}b", "too deep");
    }

    private static void cutAsAWhole() {
        Check.sentence("A command is cut as a whole, with all that is in its [ ] and ( ), ahead of all that is done of it.");
        Check check = new Check();
        check.writes(1, "puts a; list [puts b] {c}d", "a\n");
        check.writes(1, "puts a\nlist [puts b; list {c}d]", "a\n");
        check.writes(1, "puts a\nlist [puts b] $a([puts c; list {", "a\n");
        check.writes(1, "puts a\nif 1 {puts b; list \"c\"d}", "a\nb\n");
        check.writes(1, "puts a; puts b; puts {", "a\nb\n");
        Check.sentence("A CUT is looked at by complete() likewise, command by command.");
        Check.complete("puts a; puts b; puts {", 0);
        Check.complete("puts a; puts {b}c; puts {", 2);
        Check.complete("puts a; if 1 {puts {b}c}; puts", 1);
    }

    private static void fromTheLeft() {
        Check.sentence("Then its words are made from the left (a [ ] that ends with a code that isn't 0 ends the command with that code"
            + " and answer; so does an ERROR).");
        Check check = new Check();
        check.writes(1, "list [puts a] $n [puts b]", "a\n");
        check.writes(1, "list [puts a] [break] [puts b]", "a\n");
        check.ends(0, "list [catch {list [return -level 0 -code 9 abc] x} r] $r", "9 abc");
        check.ends(0, "list [catch {list x[return -level 2 abc]y} r] $r", "2 abc");
        check.ends(0, "list [catch {list [list a; error b; list c]} r] $r", "1 b");
        check.ends(0, "list [catch {nn [error b]} r] $r", "1 b");
        check.ends(0, "list [catch {list {*}\\{a [error b]} r] $r", "1 {missing brace}");
        check.ends(0, "list [return -level 0 -code 0 abc]", "abc");
    }

    private static void withoutWords() {
        Check.sentence("Without words (all EXPANDED to none) it does nothing, answers no letters, and counts no WORK but 1 (and by them).");
        Check.well("list a; {*}{}", "");
        Check.well("list a; {*}{} {*}[list] {*}\" \"", "");
        Check.well("proc unknown args {list u}; {*}{}", "");
        Check.error("\"\"", "no command: ");
        Check.work("{*}{}", 1);
        Check.work("{*}{} {*}{ }", 1);
        Check.work("{*}[list]", 1 + 6 + 1);
        Check.work("{*}[list][list]", 1 + 6 + 1 + 6 + 1);
        Check.work("set a {}; {*}$a", 8 + 1 + 1);
    }
}
