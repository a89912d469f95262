/** Promises 1, 2, 5, 6, 7: a new object, the tape, and what is told of an evaluation. */
public final class FaceTest {
    public static void main(String[] args) {
        isNew();
        feeds();
        Check.end();
    }

    private static void isNew() {
        CommandHouse house = new CommandHouse();
        for (int what = 0; what <= 9; what++) {
            Check.due("count " + what + " of a new house", house.count(what), 0);
        }
        Check.due("count(10)", house.count(10), CommandHouse.NONE);
        Check.due("count(-1)", house.count(-1), CommandHouse.NONE);
        Check.due("sum(0)", house.sum(0), 0);
        Check.due("sum(1)", house.sum(1), 0);
        Check.due("sum(2)", house.sum(2), CommandHouse.NONE);
        Check.due("told(0, 0)", house.told(0, 0), CommandHouse.NONE);
    }

    private static void feeds() {
        CommandHouse house = new CommandHouse();
        for (int i = 1; i <= 300; i++) {
            Check.due("feed " + i, house.feed(i, i, i, i, i), 20 * i);
        }
        Check.due("feed on a full tape", house.feed(1, 2, 3, 4, 5), -1);
        Check.due("tape", house.count(5), 6000);
    }
}
