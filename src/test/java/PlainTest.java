import java.util.Arrays;
import java.util.List;

/**
 * Promises 3, 4 and 7, all sentences together: runs of scripts by chance are answered as a second house answers them, which
 * was written from the document once more (PlainHouse and what it uses). With a number as its argument it compares so many
 * runs of each kind.
 */
public final class PlainTest {
    private static final long STACK = 32L << 20;

    private static int compared = 0;

    private PlainTest() {
    }

    public static void main(String[] args) throws InterruptedException {
        int runs = args.length > 0 ? Integer.parseInt(args[0]) : 600;
        // The second house stands on many calls where scripts are deep.
        Thread thread = new Thread(null, () -> compareAll(runs), "the second house", STACK);
        thread.start();
        thread.join();
        Check.due("all runs were compared", compared, runs * PlainScripts.Kind.values().length);
        Check.end();
    }

    private static void compareAll(int runs) {
        for (PlainScripts.Kind kind : PlainScripts.Kind.values()) {
            for (int run = 0; run < runs; run++) {
                compare(kind + " " + run, PlainScripts.of(kind, run));
                compared++;
            }
        }
    }

    /** Feeding, evaluating and asking: an object is used for 512 calls at most. */
    private static int calls(String script) {
        return (script.length() + 19) / 20 + 12;
    }

    private static void compare(String name, List<String> scripts) {
        Check check = new Check();
        PlainHouse plain = new PlainHouse();
        int calls = 0;
        for (int i = 0; i < scripts.size(); i++) {
            String script = scripts.get(i);
            Check.complete(script, PlainCutter.complete(script));
            calls += calls(script);
            if (calls > 512) {
                break;
            }
            String due = plain.evaluate(script) + " " + told(plain);
            String got = check.evaluate(script) + " " + told(check, plain);
            Check.due(name + ", behind " + scripts.subList(0, i) + ": " + script, got, due);
        }
        plain.renew();
    }

    private static String told(PlainHouse plain) {
        int[] there = PlainHouse.counted(plain.root);
        int[] counts = {plain.work, plain.used, plain.full, plain.begun, there[0], there[1], there[2]};
        return Arrays.toString(counts) + " " + plain.result + ", written " + plain.output;
    }

    private static String told(Check check, PlainHouse plain) {
        int[] counts = {2, 3, 4, 6, 7, 8, 9};
        Arrays.setAll(counts, i -> check.house.count(counts[i]));
        return Arrays.toString(counts) + " " + check.seen(1, plain.result) + ", written " + check.seen(0, plain.output.toString());
    }
}
