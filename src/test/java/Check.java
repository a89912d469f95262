import java.nio.charset.StandardCharsets;

/** What the tests of the project have in common: feeding, evaluating, and telling what isn't as it is due. */
final class Check {
    /** No more letters than these are told of a row that is wrong: an object is used for 512 calls at most. */
    private static final int SHOWN = 60;

    private static int wrong = 0;
    private static int asked = 0;
    private static String sentence = "";

    CommandHouse house = new CommandHouse();

    static byte[] bytes(String text) {
        return text.getBytes(StandardCharsets.ISO_8859_1);
    }

    /** Feeds a text, with 0 behind it up to twenty. */
    int feed(String text) {
        byte[] row = bytes(text);
        for (int i = 0; i < row.length; i += 20) {
            int[] n = new int[5];
            for (int k = 0; k < 20; k++) {
                int b = i + k < row.length ? row[i + k] & 255 : 0;
                n[k / 4] |= b << 24 - 8 * (k % 4);
            }
            house.feed(n[0], n[1], n[2], n[3], n[4]);
        }
        return row.length;
    }

    int evaluate(String script) {
        return house.evaluate(feed(script));
    }

    int completes(String script) {
        int due = house.complete(feed(script));
        house.evaluate(0);
        return due;
    }

    private String told(int what, int most) {
        StringBuilder text = new StringBuilder();
        int size = Math.min(house.count(what), most);
        for (int i = 0; i < size; i++) {
            text.append((char) house.told(what, i));
        }
        return text.toString();
    }

    private static int sum(String text) {
        int sum = 0;
        for (byte b : bytes(text)) {
            sum = 31 * sum + (b & 255);
        }
        return sum;
    }

    /** The OUTPUT (0) or RESULT (1), known by its size and sum; its first letters only where it isn't what is due. */
    String seen(int what, String due) {
        int size = house.count(what);
        boolean alike = size == due.length() && house.sum(what) == sum(due);
        return alike ? due : told(what, SHOWN) + " (of " + size + " letters)";
    }

    /** The sentence of the document that what follows is about; it is told where something is wrong. */
    static void sentence(String text) {
        sentence = text;
    }

    String output() {
        return told(0, 6000);
    }

    String result() {
        return told(1, 6000);
    }

    static void due(String what, Object got, Object want) {
        asked++;
        if (!want.equals(got)) {
            wrong++;
            System.out.println((sentence.isEmpty() ? "" : sentence + "\n    ") + what + "\n    answered " + got
                + "\n    due is   " + want);
        }
    }

    /** A script on this house ends so and has this result. */
    void ends(int ends, String script, String result) {
        int got = evaluate(script);
        due(script, got + " " + seen(1, result), ends + " " + result);
    }

    /** A script on this house ends so and has written this. */
    void writes(int ends, String script, String output) {
        int got = evaluate(script);
        due(script, got + " " + seen(0, output), ends + " " + output);
    }

    /** What count() tells of this house. */
    void counts(String about, int what, int due) {
        due(about + ": count(" + what + ")", house.count(what), due);
    }

    /** A script on a new house ends well with this result. */
    static void well(String script, String result) {
        new Check().ends(0, script, result);
    }

    /** A script on a new house ends with this ERROR. */
    static void error(String script, String result) {
        new Check().ends(1, script, result);
    }

    /** A script on a new house ends by the LIMIT. */
    static void limit(String script) {
        Check check = new Check();
        check.ends(2, script, "");
        check.counts(script, 2, 30000);
    }

    /** A script on a new house ends well, having written this. */
    static void puts(String script, String output) {
        new Check().writes(0, script, output);
    }

    /** complete() answers this of a script on a new house. */
    static void complete(String script, int due) {
        due("complete " + script, new Check().completes(script), due);
    }

    /** A script on a new house ends well after so much WORK. */
    static void work(String script, int work) {
        Check check = new Check();
        check.evaluate(script);
        due("WORK of " + script, check.house.count(2), work);
    }

    static void end() {
        System.out.println(asked + " asked, " + wrong + " wrong");
        if (wrong != 0) {
            System.exit(1);
        }
    }
}
