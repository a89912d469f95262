import com.sun.management.ThreadMXBean;
import java.lang.management.ManagementFactory;
import java.lang.reflect.Array;
import java.lang.reflect.Field;
import java.lang.reflect.Modifier;
import java.util.ArrayDeque;
import java.util.Collections;
import java.util.IdentityHashMap;
import java.util.Set;

/**
 * Rules 7 and 12: what a run makes stays within one room, whatever its scripts ask for at once. The runs here are the
 * largest that were found: a hundred scripts within one another, twenty coroutines, coroutines that have stopped, ten
 * acts' WATCHES, commands of thousands of words, formals, and texts on the way.
 */
public final class RoomTest {
    private static final long ROOM = 7_300_000;

    private static final ThreadMXBean THREADS = (ThreadMXBean) ManagementFactory.getThreadMXBean();

    private static Check house;
    private static long made;
    private static long largest;

    public static void main(String[] args) {
        words();
        scripts();
        coroutines();
        formals();
        watches();
        ways();
        names();
        System.out.println("the largest house has " + largest + " fields and elements");
        Check.end();
    }

    // ---- counting

    private static void begin() {
        long before = THREADS.getCurrentThreadAllocatedBytes();
        house = new Check();
        made = THREADS.getCurrentThreadAllocatedBytes() - before;
    }

    /** Evaluates a script, which must end so with this result, and counts what is made. */
    private static void step(int ends, String script, String result) {
        int n = house.feed(script);
        long before = THREADS.getCurrentThreadAllocatedBytes();
        int got = house.house.evaluate(n);
        made += THREADS.getCurrentThreadAllocatedBytes() - before;
        String told = result == null ? null : house.result();
        String start = script.length() > 60 ? script.substring(0, 60) + " .." : script;
        Check.due(start, got + " " + told, ends + " " + result);
    }

    /** A row that is full becomes four times as long: all that were given up are less than half of what there is. */
    private static void end(String what) {
        long there = elements(house.house);
        largest = Math.max(largest, there);
        Check.due(what + ": all rows, " + there + ", are within the room", there + there / 2 <= ROOM, true);
        Check.due(what + ": no more than rows was made, " + made + " bytes", made <= 6 * there + 65536, true);
    }

    /** All fields and elements of what an object leads to. */
    private static long elements(Object first) {
        Set<Object> seen = Collections.newSetFromMap(new IdentityHashMap<>());
        ArrayDeque<Object> open = new ArrayDeque<>();
        long all = 0;
        open.add(first);
        seen.add(first);
        while (!open.isEmpty()) {
            Object one = open.remove();
            if (one.getClass().isArray()) {
                all += Array.getLength(one);
                continue;
            }
            for (Field field : one.getClass().getDeclaredFields()) {
                if (Modifier.isStatic(field.getModifiers())) {
                    continue;
                }
                all++;
                Object value = valueOf(field, one);
                if (value != null && !field.getType().isPrimitive() && !(value instanceof Enum) && seen.add(value)) {
                    open.add(value);
                }
            }
        }
        return all;
    }

    private static Object valueOf(Field field, Object one) {
        try {
            field.setAccessible(true);
            return field.get(one);
        } catch (IllegalAccessException e) {
            throw new IllegalStateException(e);
        }
    }

    private static String twoLetters(int i) {
        String letters = "abcdefghijklmnopqrstuvwxyzABCDEFGHIJKLMNOPQRSTUVWXYZ";
        return "" + letters.charAt(i / 52) + letters.charAt(i % 52);
    }

    // ---- the runs

    private static void words() {
        begin();
        step(0, "catch {string repeat {x } 14900} a", "0");
        step(2, "list" + " {*}$a".repeat(990), "");
        end("a list EXPANDED 990 times");

        begin();
        step(0, "catch {string repeat {x } 14900} a", "0");
        step(1, "list" + " {*}$a".repeat(900) + " [error late]", "late");
        end("words ahead of an ERROR");

        begin();
        step(0, "catch {string repeat {x } 14900} a", "0");
        step(0, "catch {list" + " {*}$a".repeat(900) + " [break]}", "3");
        end("words ahead of a BREAK");

        begin();
        step(0, "catch {string repeat {x } 14900} a", "0");
        step(0, "proc p {} {upvar #0 a a;list" + " {*}$a".repeat(900) + " [p]}", "");
        step(2, "p", "");
        end("such commands within one another");

        begin();
        step(0, "proc p {} {list" + " a".repeat(2900) + " [p]}", "");
        step(1, "p", "too deep");
        Check.due("WORK of p", house.house.count(2), 3 + 99 * 4 + 199 * 8);
        end("words that are letters alone");

        begin();
        step(0, "set a {};proc p {} {global a;list" + " x {*}$a".repeat(640) + " [yield]}", "");
        step(0, "set i 0;while {$i<40} {coroutine k[incr i] p}", "");
        step(0, "while {$i<80} {coroutine k[incr i] p}", "");
        end("words that wait in coroutines");
    }

    private static void scripts() {
        begin();
        step(0, "catch {string repeat {[p]} 9600} b", "0");
        step(0, "proc p {} $b", "");
        step(1, "p", "too deep");
        Check.due("WORK of p", house.house.count(2), 3 + 99 * 4 + 199 * 8);
        end("9600 [ ] in each of 100 scripts");

        begin();
        step(0, "proc p {} {" + "x$a(".repeat(49) + "[p]" + ")".repeat(49) + "}", "");
        step(1, "p", "too deep");
        end("50 ( ) in each of 100 scripts");

        begin();
        step(0, "proc p {} {" + "[".repeat(49) + "p" + "]".repeat(49) + "}", "");
        step(2, "p", "");
        end("49 [ ] within one another in each script");
    }

    private static void coroutines() {
        begin();
        step(0, "proc {} {} {incr ::d;if {$::d%98} {list " + "$a(".repeat(48) + "[{}]" + ")".repeat(48)
            + "} else {coroutine c$::d {}}}", "");
        step(1, "set d 0;{}", "too deep");
        end("coroutines within one another, each 98 deep");

        begin();
        step(0, "proc {} {} yield", "");
        String inner = "{}";
        for (String name : new String[] {"a", "b", "c", "d", "e", "f", "g"}) {
            step(0, "proc " + name + " {} {" + "[".repeat(49) + inner + "]".repeat(49) + "}", "");
            inner = name;
        }
        for (int i = 0; i < 24; i++) {
            step(0, "foreach i {1 2 3 4 5 6} {coroutine k" + i + "$i g}", "");
        }
        Check.due("coroutines that have stopped", house.house.count(7), 144);
        step(2, "set i 0;while 1 {coroutine z[incr i] g}", "");
        Check.due("the house was FULL", house.house.count(4), 1);
        end("coroutines that have stopped, with 350 [ ] each");

        begin();
        step(0, "proc {} {} {while 1 {yield}};proc a {} {" + "[".repeat(49) + "{}" + "]".repeat(49) + "}", "");
        step(0, "proc b {} {" + "[".repeat(49) + "a" + "]".repeat(49) + "};coroutine k b", "");
        step(2, "while 1 k", "");
        end("a coroutine that stops and goes on");
    }

    private static void formals() {
        begin();
        step(0, "catch {string repeat x 14500} d", "0");
        step(0, "proc p \"{a $d}\" p", "");
        step(1, "p", "too deep");
        Check.due("WORK of p", house.house.count(2), 99 * 4 + 3 + 100 * 8);
        end("a formal's default");

        begin();
        step(0, "catch {string repeat x 14000} d", "0");
        step(0, "proc p \"{$d 1}\" p", "");
        step(1, "p", "too deep");
        end("a formal's name");

        begin();
        step(0, "catch {string repeat x 14000} d", "0");
        step(0, "proc p \"{a $d} b\" p", "");
        step(0, "llength [list" + " [info args p]".repeat(380) + "]", "380");
        end("info args");

        begin();
        StringBuilder many = new StringBuilder();
        for (int i = 0; i < 780; i++) {
            many.append('{').append(twoLetters(i)).append(" 1} ");
        }
        step(0, "proc p {" + many + "} yield", "");
        step(0, "set i 0;while {$i<30} {coroutine z[incr i] p}", "");
        step(0, "while {$i<60} {coroutine z[incr i] p}", "");
        step(2, "while 1 {coroutine z[incr i] p}", "");
        end("thousands of formals");

        begin();
        step(0, "proc a args {b {*}$args};proc b args {c {*}$args};proc c args {d {*}$args};proc d args yield", "");
        step(0, "catch {string repeat \\\" 800} x", "0");
        step(0, "set i 0;while {$i<5} {coroutine z[incr i] a $x}", "");
        step(0, "while {$i<10} {coroutine z[incr i] a $x}", "");
        step(0, "while {$i<15} {coroutine z[incr i] a $x}", "");
        end("args");
    }

    private static void watches() {
        begin();
        step(0, "catch {string repeat {x } 14900} a", "0");
        step(0, "set v 1;trace add variable v read {while 1 {list {*}$a [continue]};#}", "");
        step(2, "set v", "");
        end("a loop in a WATCH");

        begin();
        step(0, "catch {string repeat {x } 5000} a", "0");
        step(0, "proc w args {upvar #0 a a k k;incr k;catch {set ::v[expr $k%10] $k}\n"
            + "while 1 {catch {dict incr a x};catch {lappend a};list {*}$a [continue]}};set k 0", "0");
        step(0, "foreach i {0 1 2 3 4 5 6 7 8 9} {trace add variable v$i write w}", "");
        step(2, "set v0 1", "");
        end("loops in ten acts' WATCHES");

        begin();
        step(0, "catch {string repeat {x } 9000} a;set k 0", "0");
        step(0, "trace add variable b read {incr k;lindex $a $k;#};set b 7;set c() 5", "5");
        step(2, "while 1 {set c($b$c()) $b;unset c($b$c())}", "");
        end("a WATCH among letters");
    }

    private static void ways() {
        begin();
        step(2, "set d {};dict set d " + "{} ".repeat(1900) + "x", "");
        end("texts on the way of dict set");

        begin();
        step(0, "catch {string repeat {k v } 7000} d", "0");
        step(2, "while 1 {catch {dict incr d k}}", "");
        end("a DICTIONARY that is looked at again and again");

        begin();
        StringBuilder pairs = new StringBuilder();
        for (int i = 0; i < 1100; i++) {
            pairs.append(twoLetters(i)).append(" 1 ");
        }
        step(0, "set d {" + pairs + "};list", "");
        step(0, "proc p {} {upvar #0 d d;dict for {a b} $d yield};set i 0", "0");
        step(0, "while {$i<4} {coroutine z[incr i] p}", "");
        step(0, "while {$i<8} {coroutine z[incr i] p}", "");
        Check.due("coroutines that have stopped", house.house.count(7), 8);
        step(2, "while 1 {coroutine z[incr i] p}", "");
        end("keys and values that wait in coroutines");

        begin();
        step(0, "set d {" + pairs.substring(0, 500) + "};list", "");
        step(0, "proc p {} {upvar #0 d d;dict for {a b} $d p}", "");
        step(1, "p", "too deep");
        end("dict for within one another");

        begin();
        step(0, "catch {string repeat {[]} 14900} b", "0");
        step(2, "subst $b", "");
        end("[ ] without commands");

        begin();
        step(0, "catch {string repeat |1 7000} b", "0");
        step(0, "catch {string repeat { } 3000} c", "0");
        step(2, "while 1<<62$b$c {}", "");
        end("an expression that is worked again and again");
    }

    private static void names() {
        begin();
        step(0, "catch {string repeat x 14000} b", "0");
        step(0, "proc p {} \"set \\$$b\"", "");
        step(2, "while 1 {catch p}", "");
        end("long names that aren't there");

        begin();
        StringBuilder many = new StringBuilder();
        for (int i = 0; i < 1900; i++) {
            many.append(twoLetters(i)).append(' ');
        }
        step(0, "set g {" + many + "};list", "");
        step(0, "proc p {} {upvar #0 g g;global {*}$g;yield}", "");
        step(0, "coroutine a p;coroutine b p", "");
        step(0, "coroutine c p;coroutine d p", "");
        end("LINKS of coroutines that have stopped");
    }
}
