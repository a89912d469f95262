/** Promises 1, 2, 5, 6, 7: a new object, the tape, and what is told of an evaluation. */
public final class FaceTest {
    public static void main(String[] args) {
        isNew();
        feeds();
        tells();
        sums();
        counts();
        readme();
        Check.end();
    }

    private static void isNew() {
        CommandHouse house = new CommandHouse();
        for (int what = 0; what <= 9; what++) {
            Check.due("count " + what + " of a new house", house.count(what), 0);
        }
        Check.due("count(10)", house.count(10), CommandHouse.NONE);
        Check.due("count(-1)", house.count(-1), CommandHouse.NONE);
        Check.due("sum(0)", house.sum(0), 0);
        Check.due("sum(1)", house.sum(1), 0);
        Check.due("sum(2)", house.sum(2), CommandHouse.NONE);
        Check.due("told(0, 0)", house.told(0, 0), CommandHouse.NONE);
    }

    private static void feeds() {
        CommandHouse house = new CommandHouse();
        for (int i = 1; i <= 300; i++) {
            Check.due("feed " + i, house.feed(i, i, i, i, i), 20 * i);
        }
        Check.due("feed on a full tape", house.feed(1, 2, 3, 4, 5), -1);
        Check.due("tape", house.count(5), 6000);
    }

    private static void tells() {
        Check check = new Check();
        check.evaluate("puts -nonewline ab; list \\xe4");
        Check.due("told(0, 0)", check.house.told(0, 0), (int) 'a');
        Check.due("told(0, 1)", check.house.told(0, 1), (int) 'b');
        Check.due("told(0, 2)", check.house.told(0, 2), CommandHouse.NONE);
        Check.due("told(1, 0)", check.house.told(1, 0), 0xe4);
        Check.due("told(1, 1)", check.house.told(1, 1), CommandHouse.NONE);
        Check.due("told(1, -1)", check.house.told(1, -1), CommandHouse.NONE);
        Check.due("told(2, 0)", check.house.told(2, 0), CommandHouse.NONE);
        Check.due("told(-1, 0)", check.house.told(-1, 0), CommandHouse.NONE);
        check.evaluate("");
        Check.due("told(0, 0) of what wrote nothing", check.house.told(0, 0), CommandHouse.NONE);
        Check.due("told(1, 0) of what answered nothing", check.house.told(1, 0), CommandHouse.NONE);
    }

    private static void sums() {
        Check check = new Check();
        check.evaluate("puts ab; list xyz");
        Check.due("sum(0)", check.house.sum(0), (31 * 'a' + 'b') * 31 + 10);
        Check.due("sum(1)", check.house.sum(1), (31 * 'x' + 'y') * 31 + 'z');
        Check.due("sum(2)", check.house.sum(2), CommandHouse.NONE);
        Check.due("sum(-1)", check.house.sum(-1), CommandHouse.NONE);
        check.evaluate("string repeat z 5000");
        int all = 0;
        for (int i = 0; i < 5000; i++) {
            all = 31 * all + 'z';
        }
        Check.due("sum(1) of much", check.house.sum(1), all);
    }

    private static void counts() {
        Check check = new Check();
        check.evaluate("puts abc; proc f {} {}; proc g {} {f; f}; namespace eval a::b {}; coroutine c yield; g; list xy");
        Check.due("OUTPUT", check.house.count(0), 4);
        Check.due("RESULT", check.house.count(1), 2);
        Check.due("WORK and USED", check.house.count(2), check.house.count(3));
        Check.due("FULL", check.house.count(4), 0);
        check.feed("abc");
        Check.due("tape", check.house.count(5), 20);
        Check.due("commands", check.house.count(6), 10);
        Check.due("COROUTINES, ROOMS, procedures", check.house.count(7) + " " + check.house.count(8) + " " + check.house.count(9), "1 2 2");
        Check.due("no such count", check.house.count(11), CommandHouse.NONE);
        int used = check.house.count(3);
        check.house.evaluate(0);
        check.evaluate("{*}{}; list {a");
        Check.due("commands that can't be cut and without words", check.house.count(6), 2);
        Check.due("USED is all", check.house.count(3), used + check.house.count(2));
        Check.due("evaluate of too much", check.house.evaluate(1), CommandHouse.NONE);
        Check.due("commands stay", check.house.count(6), 2);
    }

    /** What README.md tells of its first script. */
    private static void readme() {
        CommandHouse house = new CommandHouse();
        Check.due("README: feed", house.feed(0x70757473, 0x205b6578, 0x7072207b, 0x36202a20, 0x377d5d00), 20);
        Check.due("README: complete(19)", house.complete(19), 1);
        Check.due("README: evaluate(19)", house.evaluate(19), 0);
        Check.due("README: the OUTPUT", house.count(0) + " " + house.told(0, 0) + " " + house.told(0, 1) + " " + house.told(0, 2), "3 52 50 10");
        Check.due("README: the RESULT", house.count(1), 0);
        Check.due("README: WORK", house.count(2), 29);
    }
}
