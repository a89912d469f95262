/** The boundary cases of promises 1 to 7, each under the sentence that names it. */
public final class BoundsFaceTest {
    private static final int NONE = CommandHouse.NONE;
    private static final int[] OUTSIDE = {-1, -2, Integer.MIN_VALUE, Integer.MAX_VALUE};

    public static void main(String[] args) {
        isNew();
        feedsUpTo6000();
        feedsTheHighestFirst();
        evaluatesWhatIsThere();
        nothingHappens();
        completesWhatIsThere();
        missingAtTheEnd();
        anotherFault();
        firstFault();
        tells();
        sums();
        counts();
        countsWhatIsThere();
        Check.end();
    }

    private static void isNew() {
        Check.sentence("A new house; the tape, RESULT and OUTPUT are empty.");
        Check.due("NONE", NONE, -1);
        CommandHouse house = new CommandHouse();
        for (int what = 0; what <= 9; what++) {
            Check.due("count(" + what + ")", house.count(what), 0);
        }
        for (int what = 0; what <= 1; what++) {
            Check.due("sum(" + what + ")", house.sum(what), 0);
            Check.due("told(" + what + ", 0)", house.told(what, 0), NONE);
        }
        Check.due("evaluate(1)", house.evaluate(1), NONE);
        Check.due("complete(1)", house.complete(1), NONE);
        Check.due("complete(0)", house.complete(0), 1);
        Check.due("evaluate(0)", house.evaluate(0), 0);
        Check first = new Check();
        Check second = new Check();
        first.ends(0, "set a 1", "1");
        second.ends(1, "set a", "no name: a");
        second.feed("list");
        Check.due("the tape of another house", first.house.count(5), 0);
    }

    private static void feedsUpTo6000() {
        Check.sentence("-1, and none come, if there would be more than 6000.");
        Check check = new Check();
        String row = "list b".concat(" ".repeat(14)).concat(";".repeat(5960)).concat("list c\n;;;;;;;;;;;;;");
        Check.due("letters", row.length(), 6000);
        check.feed(row.substring(0, 5980));
        Check.due("tape", check.house.count(5), 5980);
        check.feed(row.substring(5980));
        Check.due("tape", check.house.count(5), 6000);
        Check.due("feed beyond", check.house.feed(0x78787878, 0x78787878, 0x78787878, 0x78787878, 0x78787878), -1);
        Check.due("feed beyond", check.house.feed(0, 0, 0, 0, 0), -1);
        Check.due("tape", check.house.count(5), 6000);
        Check.due("evaluate(6000)", check.house.evaluate(6000), 0);
        Check.due("result", check.result(), "c");
        Check.due("tape", check.house.count(5), 0);
        Check.due("feed on the tape that is empty again", check.house.feed(0, 0, 0, 0, 0), 20);
        for (int i = 2; i <= 100; i++) {
            check.house.feed(0, 0, 0, 0, 0);
        }
        Check.due("tape", check.house.count(5), 2000);
        Check full = new Check();
        for (int i = 1; i <= 299; i++) {
            full.house.feed(0, 0, 0, 0, 0);
        }
        Check.due("the 300th feed", full.house.feed(0, 0, 0, 0, 0), 6000);
        Check.due("the 301st feed", full.house.feed(0, 0, 0, 0, 0), -1);
        Check.due("complete(6001)", full.house.complete(6001), NONE);
        Check.due("complete(6000)", full.house.complete(6000), 1);
    }

    private static void feedsTheHighestFirst() {
        Check.sentence("Twenty bytes come behind those on the tape, of each number the highest first: how many there are.");
        CommandHouse house = new CommandHouse();
        Check.due("feed", house.feed(0x6c697374, 0x20616263, 0x64656667, 0x68696a6b, 0x6c6d6eff), 20);
        Check.due("feed", house.feed(0x80007f0a, 0x6c697374, 0x207a0000, 0, -1), 40);
        Check.due("evaluate(23)", house.evaluate(23), 0);
        int[] due = {'a', 'b', 'c', 'd', 'e', 'f', 'g', 'h', 'i', 'j', 'k', 'l', 'm', 'n', 255, 128, 0, 127, NONE};
        for (int i = 0; i < due.length; i++) {
            Check.due("told(1, " + i + ")", house.told(1, i), due[i]);
        }
        Check check = new Check();
        check.feed("list a ".concat("b".repeat(13)).concat("list c"));
        Check.due("evaluate(26)", check.house.evaluate(26), 0);
        Check.due("result", check.result(), "a " + "b".repeat(13) + "list c");
    }

    private static void evaluatesWhatIsThere() {
        Check.sentence("Evaluates the first n bytes of the tape, which is empty then.");
        Check check = new Check();
        check.feed("list abcdefghijklmno");
        Check.due("evaluate(21)", check.house.evaluate(21), NONE);
        Check.due("evaluate(20)", check.house.evaluate(20), 0);
        Check.due("result", check.result(), "abcdefghijklmno");
        check.feed("list abcdefghijklmno");
        Check.due("evaluate(19)", check.house.evaluate(19), 0);
        Check.due("result", check.result(), "abcdefghijklmn");
        Check.due("tape", check.house.count(5), 0);
        Check.due("evaluate(1) of nothing", check.house.evaluate(1), NONE);
        check.feed("list abcdefghijklmno");
        Check.due("evaluate(0)", check.house.evaluate(0), 0);
        Check.due("result", check.result(), "");
        Check.due("tape", check.house.count(5), 0);
        Check.due("evaluate(0) of nothing", check.house.evaluate(0), 0);
        check.feed("nn");
        Check.due("evaluate(1)", check.house.evaluate(1), 1);
        Check.due("result", check.result(), "no command: n");
        check.feed("while 1 {}");
        Check.due("evaluate(10)", check.house.evaluate(10), 2);
        Check.due("result", check.result(), "");
    }

    private static void nothingHappens() {
        Check.sentence("NONE, and nothing happens, if n is below 0 or more than there are.");
        Check check = new Check();
        check.ends(0, "puts out; proc p {} {}; namespace eval r {}; coroutine c yield; list res", "res");
        check.feed("set a 1; puts x");
        int[] before = new int[10];
        for (int what = 0; what <= 9; what++) {
            before[what] = check.house.count(what);
        }
        for (int n : new int[] {-1, 21, Integer.MIN_VALUE, Integer.MAX_VALUE}) {
            Check.due("evaluate(" + n + ")", check.house.evaluate(n), NONE);
            for (int what = 0; what <= 9; what++) {
                Check.due("count(" + what + ") after evaluate(" + n + ")", check.house.count(what), before[what]);
            }
            Check.due("output", check.output(), "out\n");
            Check.due("result", check.result(), "res");
        }
        Check.due("evaluate(15)", check.house.evaluate(15), 0);
        Check.due("output", check.output(), "x\n");
    }

    private static void completesWhatIsThere() {
        Check.sentence("The first n bytes of the tape (which stays); NONE likewise.");
        Check check = new Check();
        check.ends(0, "puts out; list res", "res");
        int work = check.house.count(2);
        check.feed("list {a}; list {b}c ");
        for (int n : new int[] {-1, 21, Integer.MIN_VALUE, Integer.MAX_VALUE}) {
            Check.due("complete(" + n + ")", check.house.complete(n), NONE);
        }
        int[][] due = {{0, 1}, {5, 1}, {6, 0}, {7, 0}, {8, 1}, {9, 1}, {15, 1}, {16, 0}, {18, 1}, {19, 2}, {20, 2}};
        for (int[] pair : due) {
            Check.due("complete(" + pair[0] + ")", check.house.complete(pair[0]), pair[1]);
            check.counts("behind complete", 5, 20);
        }
        check.counts("complete does no WORK", 2, work);
        check.counts("complete does no WORK", 3, work);
        check.counts("complete begins no command", 6, 2);
        Check.due("result", check.result(), "res");
        Check.due("output", check.output(), "out\n");
        Check.due("evaluate(18)", check.house.evaluate(18), 0);
        Check.due("result", check.result(), "b");
        Check.due("complete(1) of nothing", check.house.complete(1), NONE);
    }

    private static void missingAtTheEnd() {
        Check.sentence("1 if they can be cut, 0 if at their end something is missing.");
        String[][] pairs = {{"a {b}", "a {b"}, {"a \"b\"", "a \"b"}, {"a [b]", "a [b"}, {"a $b(c)", "a $b(c"}, {"a ${b}", "a ${b"},
            {"a {{}}", "a {{}"}, {"a \"$b(\")", "a \"$b(\""}, {"a {b\\}}", "a {b\\}"}, {"a {b\\\n}", "a {b\\\n"}, {"{}", "{"},
            {"\"\"", "\""}, {"[]", "["}, {"$a()", "$a("}, {"${}", "${"}, {"[a {]}]", "[a {]}"}, {"[#]\n]", "[#]"}, {"{*}{}", "{*}{"},
            {"a;b\n{c\nd}", "a;b\n{c\nd"}, {"{*}", "{*"}, {"a \"[b \"c\"]\"", "a \"[b \"c\"]"}, {"$a([b])", "$a([b]"}};
        for (String[] pair : pairs) {
            Check.complete(pair[1], 0);
            boolean both = pair[0].equals("a \"$b(\")");
            Check.complete(both ? pair[0] + "\"" : pair[0], 1);
        }
        Check.complete("a \"b\\\"", 0);
        Check.complete("a \"b\\\\\"", 1);
        Check.complete("# {\"[$a(", 1);
        Check.complete("a ;# [", 1);
        Check.complete("a # [", 0);
        Check.complete("a }])\"", 1);
        Check.complete("a \\", 1);
        Check.complete("a \\\n", 1);
        Check.complete("a $", 1);
        Check.complete("a $(", 1);
        Check.complete("\u0000", 1);
        Check.complete("[".repeat(50), 0);
        Check.complete("{".repeat(5000), 0);
        Check.complete("{".repeat(3000) + "}".repeat(3000), 1);
        Check.complete("{".repeat(3000) + "}".repeat(2999), 0);
    }

    private static void anotherFault() {
        Check.sentence("2 for another fault.");
        for (String end : new String[] {" ", "\t", "\u000b", "\f", "\r", "\n", ";", "\\\n", ""}) {
            Check.complete("a {b}" + end, 1);
            Check.complete("a \"b\"" + end, 1);
        }
        for (String end : new String[] {"c", "]", "\\", "\\ ", "{", "\"", "$", "[", "\u0000", "\u00ff", "#"}) {
            Check.complete("a {b}" + end, 2);
            Check.complete("a \"b\"" + end, 2);
        }
        Check.complete("[a {b}]", 1);
        Check.complete("[a \"b\"]", 1);
        Check.complete("a {*}{*}", 1);
        Check.complete("a {*}{*}x", 2);
        Check.complete("[".repeat(50) + "]".repeat(50), 1);
        Check.complete("[".repeat(51) + "]".repeat(51), 2);
        Check.complete("$a(".repeat(50) + ")".repeat(50), 1);
        Check.complete("$a(".repeat(51) + ")".repeat(51), 2);
    }

    private static void firstFault() {
        Check.sentence("The first fault counts.");
        Check.complete("a {b}c {", 2);
        Check.complete("a { {b}c", 0);
        Check.complete("a [b {c}d", 2);
        Check.complete("a [b \"c\"d", 2);
        Check.complete("a \"[b {c}d", 2);
        Check.complete("a $b([c {d}e", 2);
        Check.complete("a {b}c\na {", 2);
        Check.complete("a \"b\na {b}c", 0);
        Check.complete("[".repeat(51), 2);
        Check.complete("a {b " + "[".repeat(51), 0);
        Check.complete("a {b}c " + "[".repeat(51), 2);
        Check.error("a {b}c " + "[".repeat(51), "letters behind brace");
        Check.error("a " + "[".repeat(51) + " {b}c", "too deep");
    }

    private static void tells() {
        Check.sentence("Byte i of the OUTPUT (what 0), the RESULT (1); NONE if there is none such.");
        Check check = new Check();
        check.evaluate("puts -nonewline \\x00\\xff; list \\x80\\x7f\\x01");
        int[][] due = {{0, 0, 0}, {0, 1, 255}, {0, 2, NONE}, {1, 0, 128}, {1, 1, 127}, {1, 2, 1}, {1, 3, NONE}};
        for (int[] row : due) {
            Check.due("told(" + row[0] + ", " + row[1] + ")", check.house.told(row[0], row[1]), row[2]);
        }
        for (int i : OUTSIDE) {
            Check.due("told(0, " + i + ")", check.house.told(0, i), NONE);
            Check.due("told(1, " + i + ")", check.house.told(1, i), NONE);
            Check.due("told(" + i + ", 0)", check.house.told(i, 0), NONE);
        }
        for (int what = 2; what <= 9; what++) {
            Check.due("told(" + what + ", 0)", check.house.told(what, 0), NONE);
        }
        check.evaluate("puts -nonewline [string repeat a 2999]z; string repeat b 9999");
        Check.due("told(0, 2999)", check.house.told(0, 2999), (int) 'z');
        Check.due("told(0, 3000)", check.house.told(0, 3000), NONE);
        Check.due("told(1, 9998)", check.house.told(1, 9998), (int) 'b');
        Check.due("told(1, 9999)", check.house.told(1, 9999), NONE);
        check.evaluate("while 1 {}");
        Check.due("told(1, 0) of the LIMIT", check.house.told(1, 0), NONE);
        Check.due("told(0, 0) of what wrote nothing", check.house.told(0, 0), NONE);
    }

    private static void sums() {
        Check.sentence("From 0 on, 31 times what there is, and the byte; NONE for another what.");
        Check check = new Check();
        check.evaluate("puts -nonewline \\xff; list \\x00");
        Check.due("sum(0) of one byte", check.house.sum(0), 255);
        Check.due("sum(1) of one byte 0", check.house.sum(1), 0);
        check.evaluate("puts -nonewline \\x80\\xff; list \\x00\\x01\\x00");
        Check.due("sum(0)", check.house.sum(0), 31 * 128 + 255);
        Check.due("sum(1)", check.house.sum(1), 31);
        for (int size = 5; size <= 8; size++) {
            check.evaluate("puts -nonewline [string repeat \\xff " + size + "]; string repeat \\xff " + (size + 10));
            Check.due("sum(0), which goes round at 2^31", check.house.sum(0), all(255, size));
            Check.due("sum(1), which goes round", check.house.sum(1), all(255, size + 10));
        }
        check.evaluate("puts [string repeat z 4000]; string repeat y 9000");
        Check.due("sum(0) of 3000", check.house.sum(0), all('z', 3000));
        Check.due("sum(1) of 9000", check.house.sum(1), all('y', 9000));
        for (int what : OUTSIDE) {
            Check.due("sum(" + what + ")", check.house.sum(what), NONE);
        }
        for (int what = 2; what <= 9; what++) {
            Check.due("sum(" + what + ")", check.house.sum(what), NONE);
        }
        check.evaluate("while 1 {}");
        Check.due("sum(0) of nothing", check.house.sum(0), 0);
        Check.due("sum(1) of nothing", check.house.sum(1), 0);
    }

    private static int all(int letter, int size) {
        int sum = 0;
        for (int i = 0; i < size; i++) {
            sum = 31 * sum + letter;
        }
        return sum;
    }

    private static void counts() {
        Check.sentence("NONE for another what.");
        CommandHouse house = new CommandHouse();
        for (int what : OUTSIDE) {
            Check.due("count(" + what + ")", house.count(what), NONE);
        }
        Check.due("count(9)", house.count(9), 0);
        Check.due("count(10)", house.count(10), NONE);
        Check.sentence("0 bytes of the OUTPUT, 1 of the RESULT, 2 WORK of the latest evaluate(), 3 USED.");
        Check check = new Check();
        check.evaluate("puts ab; list xyz");
        check.counts("OUTPUT", 0, 3);
        check.counts("RESULT", 1, 3);
        check.counts("WORK", 2, 1 + 5 + 3 + 1 + 5 + 4 + 3);
        check.counts("USED", 3, 22);
        check.evaluate("");
        check.counts("no OUTPUT", 0, 0);
        check.counts("no RESULT", 1, 0);
        check.counts("no WORK", 2, 0);
        check.counts("USED", 3, 22);
        check.counts("no command", 6, 0);
        check.evaluate("{*}{}");
        check.counts("WORK", 2, 1);
        check.counts("USED", 3, 23);
        check.counts("a command without words", 6, 1);
        check.evaluate("list {");
        check.counts("one that can't be cut", 6, 1);
        check.evaluate("proc unknown args {}; nn");
        check.counts("unknown counts as the one that wasn't found", 6, 2);
        check.evaluate("coroutine c list");
        check.counts("a coroutine's command is one as others", 6, 2);
        check.evaluate("list [list [list]]; # list\n; ;");
        check.counts("commands in [ ]", 6, 3);
        check.evaluate("trace add variable a write list; set a 1");
        check.counts("commands of a WATCH", 6, 3);
        check.evaluate("if 0 {list a} else {list b; list c}");
        check.counts("commands of a script", 6, 3);
    }

    private static void countsWhatIsThere() {
        Check.sentence("7 COROUTINES that are there, 8 ROOMS but :: , 9 procedures that are there.");
        Check check = new Check();
        there(check, "list", 0, 0, 0);
        there(check, "coroutine c yield", 1, 0, 0);
        there(check, "coroutine d list", 1, 0, 0);
        there(check, "coroutine d yield", 2, 0, 0);
        there(check, "proc d {} {}", 1, 0, 1);
        there(check, "c", 0, 0, 1);
        there(check, "namespace eval a::b::c {}", 0, 3, 1);
        there(check, "namespace eval ::a {}", 0, 3, 1);
        there(check, "proc a::b::p {} {}; proc a::q {} {}", 0, 3, 3);
        there(check, "proc a::q {} {list}", 0, 3, 3);
        there(check, "rename a::q q; rename list mine", 0, 3, 3);
        there(check, "rename mine list; rename d {}", 0, 3, 2);
        there(check, "coroutine a::b::y yield", 1, 3, 2);
        there(check, "namespace delete a::b", 0, 1, 1);
        there(check, "coroutine c yield; rename c {}", 0, 1, 1);
        there(check, "catch {proc x::y {} {}}; catch {namespace delete ::}", 0, 1, 1);
        there(check, "namespace delete a; rename q {}", 0, 0, 0);
        check.evaluate("coroutine c eval {coroutine d yield; while 1 {}}");
        check.counts("the one that ran is no more", 7, 1);
        check.counts("not FULL", 4, 0);
    }

    private static void there(Check check, String script, int coroutines, int rooms, int procedures) {
        Check.due(script, check.evaluate(script), 0);
        check.counts(script, 7, coroutines);
        check.counts(script, 8, rooms);
        check.counts(script, 9, procedures);
    }
}
