import java.nio.charset.StandardCharsets;

/** What the tests of the project have in common: feeding, evaluating, and telling what isn't as it is due. */
final class Check {
    private static int wrong = 0;
    private static int asked = 0;

    CommandHouse house = new CommandHouse();

    static byte[] bytes(String text) {
        return text.getBytes(StandardCharsets.ISO_8859_1);
    }

    /** Feeds a text, with 0 behind it up to twenty. */
    int feed(String text) {
        byte[] row = bytes(text);
        for (int i = 0; i < row.length; i += 20) {
            int[] n = new int[5];
            for (int k = 0; k < 20; k++) {
                int b = i + k < row.length ? row[i + k] & 255 : 0;
                n[k / 4] |= b << 24 - 8 * (k % 4);
            }
            house.feed(n[0], n[1], n[2], n[3], n[4]);
        }
        return row.length;
    }

    int evaluate(String script) {
        return house.evaluate(feed(script));
    }

    int complete(String script) {
        int due = house.complete(feed(script));
        house.evaluate(0);
        return due;
    }

    private String told(int what) {
        StringBuilder text = new StringBuilder();
        for (int i = 0; i < house.count(what); i++) {
            text.append((char) house.told(what, i));
        }
        return text.toString();
    }

    String output() {
        return told(0);
    }

    String result() {
        return told(1);
    }

    static void due(String what, Object got, Object want) {
        asked++;
        if (!want.equals(got)) {
            wrong++;
            System.out.println(what + "\n    answered " + got + "\n    due is   " + want);
        }
    }

    /** A script on this house ends so and has this result. */
    void ends(int ends, String script, String result) {
        int got = evaluate(script);
        due(script, got + " " + result(), ends + " " + result);
    }

    /** A script on a new house ends well with this result. */
    static void well(String script, String result) {
        new Check().ends(0, script, result);
    }

    /** A script on a new house ends with this ERROR. */
    static void error(String script, String result) {
        new Check().ends(1, script, result);
    }

    /** A script on a new house ends well after so much WORK. */
    static void work(String script, int work) {
        Check check = new Check();
        check.evaluate(script);
        due("WORK of " + script, check.house.count(2), work);
    }

    static void end() {
        System.out.println(asked + " asked, " + wrong + " wrong");
        if (wrong != 0) {
            System.exit(1);
        }
    }
}
