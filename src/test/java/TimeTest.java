/** Rule 7: each call ends, and soon. The runs here are the slowest that were found: much is read for little WORK. */
public final class TimeTest {
    private static final long MOST = 10_000;

    private static Check house;

    public static void main(String[] args) {
        expressions();
        scripts();
        lists();
        letters();
        Check.end();
    }

    /** The last script of a run on a new house ends so, in time. */
    private static void ends(int ends, String... scripts) {
        house = new Check();
        long slowest = 0;
        int got = 0;
        for (String script : scripts) {
            long before = System.nanoTime();
            got = house.evaluate(script);
            slowest = Math.max(slowest, (System.nanoTime() - before) / 1_000_000);
        }
        String last = scripts[scripts.length - 1];
        String start = last.length() > 60 ? last.substring(0, 60) + " .." : last;
        Check.due(start, got, ends);
        Check.due(start + " took " + slowest + " ms", slowest < MOST, true);
    }

    private static void expressions() {
        for (String part : new String[] {"||1", "||[]", "||$a", "||-1", "||(1)", "||\"\""}) {
            int times = 13800 / part.length();
            ends(2, "catch {string repeat {" + part + "} " + times + "} b", "proc p {} \"while {1$b} {}\"", "p");
        }
        ends(0, "catch {string repeat &&1 4600} b", "proc p {} \"while {0$b} {}\"", "p");
        ends(2, "catch {string repeat ::a 4700} b", "namespace eval $b {set x 1};list",
            "proc p {} \"while \\{\\$${b}::x\\} {}\"", "p");
    }

    private static void scripts() {
        ends(2, "catch {string repeat # 29000} b", "proc p {} $b", "while 1 p");
        ends(2, "catch {string repeat {[{*}[]]} 1750} b", "proc p {} \"list $b\"", "while 1 p");
        ends(0, "catch {string repeat {x } 7000} l", "catch {string repeat # 14000} b", "foreach x $l $b");
        ends(0, "catch {string repeat {x } 7000} l", "catch {string repeat {\\x41} 3500} n", "foreach $n $l {}");
    }

    private static void lists() {
        ends(2, "catch {string repeat {x } 14400} a", "catch {string repeat {y } 14400} b",
            "while 1 {list" + " {*}$a {*}$b".repeat(490) + " [continue]}");
        ends(2, "catch {string repeat {a b } 7000} b", "while 1 {catch {dict incr b a}}");
        ends(2, "catch {string repeat {a b } 7000} b", "while 1 {catch {lset b 99999 x}}");
    }

    private static void letters() {
        ends(0, "catch {string repeat a 14000} t", "catch {string cat {*[} [string repeat a 9000] {]b}} p", "string match $p $t");
        ends(0, "catch {string repeat a 20000} t", "catch {string cat [string repeat a 8000] b} p", "string first $p $t");
        ends(2, "catch {string repeat a 14000} t;catch {string repeat b 14000} p", "split $t $p");
        ends(2, "catch {string repeat a 14000} t;catch {string repeat {aaaab x } 1700} p", "string map $p $t");
    }
}
