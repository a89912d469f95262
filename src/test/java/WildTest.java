import java.util.Random;

/** Rule 7 of the language and the limits: wild scripts never throw, always end, and end alike on two houses. */
public final class WildTest {
    // Commands with gaps: N a name, V a value, L a list, D a dictionary, I an index, E a test, S a script, C a command,
    // O acts, R a room, K a level, W any words at all.
    private static final String[] SHAPES = {"set N V", "set N", "incr N", "incr N V", "append N V V", "lappend N V", "unset N",
        "unset -nocomplain N N", "global N", "variable N V", "upvar K N N", "upvar 0 N N", "array set N D", "array get N",
        "array unset N", "array unset N a*", "array names N", "array size N", "info exists N", "info level", "info level K",
        "info commands", "info args C", "info body C", "info coroutine", "trace add variable N O S", "trace add variable N O {S;#}",
        "trace remove variable N O S", "trace info variable N", "list V V", "llength L", "lindex L I", "lindex L I I", "lset N I V",
        "lset N I I V", "lrange L I I", "linsert L I V", "lreplace L I I V", "lreverse L", "lrepeat 3 V", "concat L V", "join L V",
        "split V V", "lassign L N N", "lsearch L V", "lsort L", "lsort -unique L", "foreach N L S", "foreach {N N} L S", "lmap N L S",
        "dict create V V", "dict get D V", "dict exists D V", "dict set N V V", "dict set N V V V", "dict unset N V", "dict incr N V",
        "dict lappend N V V", "dict keys D", "dict merge D D", "dict for {N N} D S", "string length V", "string range V I I",
        "string map D V", "string repeat V 3", "string trim V", "string is list V", "subst V", "puts V", "eval S", "expr E", "if E S",
        "if E S else S", "while E S", "for S E S S", "switch V {V S default S}", "switch -glob V V S a* S", "catch S", "catch S N",
        "try S finally S", "error V", "break", "continue", "return V", "return -code V V", "return -level 2 -code 3 V", "uplevel K S",
        "uplevel S", "proc C L S", "proc C {a {b 2} args} S", "apply {x S} V", "apply {x S R} V", "rename C C", "rename C {}",
        "namespace eval R S", "namespace delete R", "namespace current", "namespace exists R", "coroutine C eval S", "coroutine C C V",
        "yield", "yield V", "C", "C V", "C V V", "C [yield V]", "W W W", "W"};
    private static final String[] NAMES = {"x", "y", "z", "a", "a(1)", "a(x)", "y(2)", "n::v", "::x", "m::a(1)", "{}", "$x"};
    private static final String[] VALUES = {"1", "0", "-3", "abc", "{a b}", "{}", "$x", "$a(1)", "$y", "[C]", "[yield]", "[set N]", "\"$x [C]\"",
        "0x1F", "9223372036854775807", "{a {b c} d}", "\\{", "{x 1 y 2}", "$n::v", "{*}$y", "a\\ b", "[list V V]", "#"};
    private static final String[] TESTS = {"1", "0", "{$x < 5}", "{[incr x] < 9}", "{[C] eq {a}}", "{$x in {1 2}}", "{!$x}", "{$y ? 1 : 0}", "{(1}",
        "{[incr q] % 7}", "{$x + [yield 1]}", "{$a(1) && [C] || 0}"};
    private static final String[] COMMANDS = {"f", "g", "h", "c", "d", "n::f", "m::c", "unknown", "set", "list"};
    private static final String[] WORDS = {"{", "}", "\"", "[", "]", "$", "\\", ";", "\n", "#", "{*}", "a", "$x", "{a}b", "\\\n", "(", ")", "$a("};

    public static void main(String[] args) {
        int seeds = args.length > 0 ? Integer.parseInt(args[0]) : 150;
        for (int seed = 0; seed < seeds; seed++) {
            run(seed);
        }
        Check.end();
    }

    private static String pick(Random random, String... from) {
        return from[random.nextInt(from.length)];
    }

    private static String fill(Random random, String shape, int depth) {
        StringBuilder text = new StringBuilder();
        for (int i = 0; i < shape.length(); i++) {
            char c = shape.charAt(i);
            boolean alone = (i == 0 || !Character.isLetter(shape.charAt(i - 1)))
                && (i == shape.length() - 1 || !Character.isLetter(shape.charAt(i + 1)));
            text.append(alone ? gap(random, c, depth) : String.valueOf(c));
        }
        return text.toString();
    }

    private static String gap(Random random, char c, int depth) {
        switch (c) {
            case 'N': return pick(random, NAMES);
            case 'V': return depth > 6 ? "1" : fill(random, pick(random, VALUES), depth + 1);
            case 'L': return pick(random, "{}", "{a b c}", "{1 2 3 4}", "$y", "{x {y z}}", "\\{", "[list 1 2]");
            case 'D': return pick(random, "{}", "{a 1 b 2}", "{a 1 a 2}", "$y", "{a}", "{x {p q}}");
            case 'I': return pick(random, "0", "1", "end", "end-1", "-1", "9", "zz");
            case 'E': return depth > 6 ? "0" : fill(random, pick(random, TESTS), depth + 1);
            case 'S': return depth > 3 ? "{incr x}" : "{" + script(random, depth + 1, 2) + "}";
            case 'C': return pick(random, COMMANDS);
            case 'O': return pick(random, "read", "write", "unset", "{read write}", "{read write unset}");
            case 'R': return pick(random, "n", "m", "::n", "n::o", "{}");
            case 'K': return pick(random, "0", "1", "#0", "#1", "2");
            case 'W': return pick(random, WORDS);
            default: return String.valueOf(c);
        }
    }

    private static String script(Random random, int depth, int most) {
        StringBuilder text = new StringBuilder();
        int commands = 1 + random.nextInt(most);
        for (int i = 0; i < commands; i++) {
            String command = fill(random, pick(random, SHAPES), depth);
            text.append(random.nextInt(3) > 0 ? "catch {" + command + "}" : command);
            text.append(random.nextBoolean() ? "\n" : "; ");
        }
        return text.toString();
    }

    private static void run(int seed) {
        Random random = new Random(seed);
        Check one = new Check();
        Check two = new Check();
        String first = "proc f args {global x; incr x}; proc g {{a 1} args} {upvar 1 x y; catch {incr y}; f}; namespace eval n {set v 1; proc f"
            + " {} {yield; variable v; incr v}}; coroutine c eval {while 1 {yield [incr x]}}; trace add variable x write {lappend l}";
        one.evaluate(first);
        two.evaluate(first);
        for (int i = 0; i < 12; i++) {
            String script = script(random, 0, 8);
            script = script.length() > 5900 ? script.substring(0, 5900) : script;
            int ends = one.evaluate(script);
            Check.due("the same on two houses: " + script, two.evaluate(script), ends);
            Check.due("result of " + script, two.house.sum(1), one.house.sum(1));
            Check.due("output of " + script, two.house.sum(0), one.house.sum(0));
            Check.due("work of " + script, two.house.count(2), one.house.count(2));
            Check.due("within the limit: " + script, one.house.count(2) >= 0 && one.house.count(2) <= 30000, true);
            boolean counted = one.house.count(7) >= 0 && one.house.count(8) >= 0 && one.house.count(9) >= 0;
            Check.due("counts are not negative: " + script, counted, true);
            int cut = new Check().completes(script);
            Check.due("complete is known: " + script, cut >= 0 && cut <= 2, true);
        }
    }
}
