/** Promises 19 to 21: count, uneven, total. */
public final class CountsTest {
    private static final int[] NO_FACES = {1, 0, -1, 1001, Integer.MAX_VALUE, Integer.MIN_VALUE};

    public static void main(String[] args) {
        count();
        uneven();
        unevenBeyondAnInt();
        total();
        throwing();
        Checks.finish();
    }

    /**
     * Entries 0 to 4 with six faces have the values 2, 2, 6, 2, 1, entry 5 with seven faces has 2;
     * entries 0, 2, 4 are of promise 0, the others of promise 1; table 0 has 0, 1, 2, table 3 the others.
     */
    private static DiceForge sixEntries() {
        DiceForge x = new DiceForge();
        x.promise(100);
        x.promise(200);
        int[] values = {2, 2, 6, 2, 1, 2};
        for (int e = 0; e < 6; e++) {
            x.roll(e % 2, e < 3 ? 0 : 3, e == 5 ? 7 : 6);
            x.alter(e, values[e]);
        }
        return x;
    }

    /** Struck from the first entry of promise 0 on: entries 0, 2 and 4. */
    private static DiceForge halfStruck() {
        DiceForge x = sixEntries();
        x.open(0);
        x.alter(0, x.found(0) == 5 ? 4 : 5);
        x.dispute(0);
        return x;
    }

    private static void count() {
        DiceForge x = sixEntries();
        Checks.due("count(6, 2)", 3, () -> x.count(6, 2));
        Checks.due("count(6, 6)", 1, () -> x.count(6, 6));
        Checks.due("count(6, 1)", 1, () -> x.count(6, 1));
        Checks.due("count(6, 3)", 0, () -> x.count(6, 3));
        Checks.due("count(7, 2)", 1, () -> x.count(7, 2));
        Checks.due("count(2, 2)", 0, () -> x.count(2, 2));
        Checks.due("count(1000, 1000)", 0, () -> x.count(1000, 1000));
        x.alter(0, 6);
        Checks.due("count(6, 2), altered", 2, () -> x.count(6, 2));
        Checks.due("count(6, 6), altered", 2, () -> x.count(6, 6));
        DiceForge struck = halfStruck();
        Checks.due("isStruck(0)", true, () -> struck.isStruck(0));
        Checks.due("count(6, 2), half struck", 2, () -> struck.count(6, 2));
        Checks.due("count(6, 6), struck", 0, () -> struck.count(6, 6));
        Checks.due("count(6, 1), struck", 0, () -> struck.count(6, 1));
        Checks.due("count(7, 2), half struck", 1, () -> struck.count(7, 2));
    }

    private static void uneven() {
        DiceForge x = sixEntries();
        // Five entries: 1 once, 2 thrice, 6 once: 1 + 13 * 13 + 1 + 3 * 25.
        Checks.due("uneven(6)", 246, () -> x.uneven(6));
        // One entry: 6 * 6 + 6 * 1.
        Checks.due("uneven(7)", 42, () -> x.uneven(7));
        Checks.due("uneven(6) again", 246, () -> x.uneven(6));
        Checks.due("uneven(2)", 0, () -> x.uneven(2));
        Checks.due("uneven(1000)", 0, () -> x.uneven(1000));
        DiceForge struck = halfStruck();
        // Two entries, both 2: 10 * 10 + 5 * 4.
        Checks.due("uneven(6), half struck", 120, () -> struck.uneven(6));
        DiceForge even = new DiceForge();
        even.promise(1);
        for (int e = 0; e < 4; e++) {
            even.roll(0, e, 2);
            even.alter(e, 1 + e % 2);
        }
        Checks.due("uneven(2) of even entries", 0, () -> even.uneven(2));
        even.alter(0, 2);
        // 1 once, 2 thrice of four: 2 * 2 + 2 * 2.
        Checks.due("uneven(2)", 8, () -> even.uneven(2));
    }

    private static void unevenBeyondAnInt() {
        DiceForge x = new DiceForge();
        x.promise(1);
        for (int e = 0; e < 100; e++) {
            x.roll(0, 0, 1000);
            x.alter(e, 1000);
        }
        // 99900 * 99900 + 999 * 10000
        Checks.due("uneven(1000)", 9990000000L, () -> x.uneven(1000));
        Checks.due("count(1000, 1000)", 100, () -> x.count(1000, 1000));
        Checks.due("total(0)", 100000, () -> x.total(0));
        for (int e = 0; e < 100; e++) {
            x.alter(e, 1);
        }
        Checks.due("uneven(1000) at the other end", 9990000000L, () -> x.uneven(1000));
    }

    private static void total() {
        DiceForge x = sixEntries();
        Checks.due("total(0)", 10, () -> x.total(0));
        Checks.due("total(1)", 0, () -> x.total(1));
        Checks.due("total(2)", 0, () -> x.total(2));
        Checks.due("total(3)", 5, () -> x.total(3));
        x.alter(2, 3);
        Checks.due("total(0), altered", 7, () -> x.total(0));
        DiceForge struck = halfStruck();
        Checks.due("total(0), half struck", 2, () -> struck.total(0));
        Checks.due("total(3), half struck", 4, () -> struck.total(3));
    }

    private static void throwing() {
        for (int faces : NO_FACES) {
            Checks.unchanged("count(" + faces + ", 1)", CountsTest::sixEntries, Checks.ARGUMENT,
                    x -> x.count(faces, 1));
            Checks.unchanged("uneven(" + faces + ")", CountsTest::sixEntries, Checks.ARGUMENT,
                    x -> x.uneven(faces));
        }
        for (int value : new int[] {0, -1, 7, 1000, Integer.MAX_VALUE, Integer.MIN_VALUE}) {
            Checks.unchanged("count(6, " + value + ")", CountsTest::sixEntries, Checks.ARGUMENT,
                    x -> x.count(6, value));
        }
        Checks.unchanged("count(1000, 1001)", CountsTest::sixEntries, Checks.ARGUMENT, x -> x.count(1000, 1001));
        Checks.unchanged("count(1001, 1001)", CountsTest::sixEntries, Checks.ARGUMENT, x -> x.count(1001, 1001));
        for (int table : new int[] {-1, 4, 5, Integer.MAX_VALUE, Integer.MIN_VALUE}) {
            Checks.unchanged("total(" + table + ")", CountsTest::sixEntries, Checks.INDEX, x -> x.total(table));
        }
    }
}
