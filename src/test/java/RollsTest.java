/** Promises 8 to 13: roll, entries, value, rejected, sum, alter. */
public final class RollsTest {
    private static final int[] NO_ENTRIES = {-1, 3, 4, 99, 100, Integer.MAX_VALUE, Integer.MIN_VALUE};

    public static void main(String[] args) {
        roll();
        rollsOfTwoPromises();
        rejectedDraws();
        firstRollsOfAllSeeds();
        rollThrows();
        hundredEntries();
        readEntries();
        sums();
        alter();
        alterThrows();
        Checks.finish();
    }

    private static DiceForge withSeed(int seed) {
        DiceForge x = new DiceForge();
        x.promise(seed);
        return x;
    }

    private static DiceForge threeRolls() {
        DiceForge x = withSeed(0);
        x.promise(1);
        x.setPart(1, 100);
        x.roll(0, 0, 6);
        x.roll(1, 1, 20);
        x.roll(0, 1, 1000);
        return x;
    }

    private static void roll() {
        DiceForge x = withSeed(0);
        // States 12345, then 1105 * 12345 + 12345 = 13653570, which is 22082 by 65536.
        Checks.due("roll(0, 0, 6)", 4, () -> x.roll(0, 0, 6));
        Checks.due("roll(0, 3, 1000)", 83, () -> x.roll(0, 3, 1000));
        DiceForge y = withSeed(65535);
        // 1105 * 65535 + 12345 = 72428520, which is 11240 by 65536.
        Checks.due("roll(0, 0, 1000) of 65535", 241, () -> y.roll(0, 0, 1000));
        DiceForge z = withSeed(0);
        // Both ends of the faces, and both ends of the values: 12345 is odd, 22082 even.
        Checks.due("roll(0, 0, 2)", 2, () -> z.roll(0, 0, 2));
        Checks.due("roll(0, 0, 2)", 1, () -> z.roll(0, 0, 2));
        DiceForge ends = withSeed(27982);
        Checks.due("roll(0, 0, 1000) with the draw 64999", 1000, () -> ends.roll(0, 0, 1000));
        Checks.due("rejected(0) with the draw 64999", 0, () -> ends.rejected(0));
    }

    private static void rollsOfTwoPromises() {
        DiceForge both = new DiceForge();
        both.promise(0);
        both.promise(65535);
        DiceForge one = withSeed(0);
        DiceForge other = withSeed(65535);
        for (int i = 0; i < 40; i++) {
            int faces = 2 + 25 * i;
            Checks.due("roll(0) beside another", one.roll(0, 0, faces), () -> both.roll(0, 0, faces));
            Checks.due("roll(1) beside another", other.roll(0, 2, faces), () -> both.roll(1, 2, faces));
        }
        DiceForge twice = new DiceForge();
        twice.promise(77);
        twice.promise(77);
        int first = twice.roll(0, 0, 1000);
        Checks.due("the first roll of the same seed", first, () -> twice.roll(1, 3, 1000));
    }

    private static void rejectedDraws() {
        // Draws of the seed, the faces, the value after them, how many were rejected.
        int[][] known = {
            {12799, 1000, 890, 1}, // the draw 65000, the multiple itself
            {16358, 1000, 241, 1}, // the draw 65535
            {8885, 1000, 25, 2},
            {18374, 997, 50, 2},
            {11554, 6, 6, 0},      // the draw 65531
            {61907, 6, 6, 1},      // the draw 65532
            {16358, 3, 3, 1},
            {31541, 3, 3, 0},      // the draw 65534
            {16358, 2, 2, 0},      // 65536 is a multiple of 2: none is rejected
        };
        for (int[] k : known) {
            DiceForge x = withSeed(k[0]);
            String roll = "of seed " + k[0] + " with " + k[1] + " faces";
            Checks.due("roll " + roll, k[2], () -> x.roll(0, 0, k[1]));
            Checks.due("rejected " + roll, k[3], () -> x.rejected(0));
        }
        DiceForge part = withSeed(10010);
        part.setPart(2, 999);
        Checks.due("roll with a part", 496, () -> part.roll(0, 2, 1000));
        Checks.due("rejected with a part", 2, () -> part.rejected(0));
        DiceForge next = withSeed(8885);
        next.roll(0, 0, 1000);
        next.roll(0, 0, 6);
        Checks.due("rejected(0), kept", 2, () -> next.rejected(0));
        Checks.due("rejected(1), its own", 0, () -> next.rejected(1));
    }

    /** The rule of the document, word by word: the value and the rejected draws of a seed's first roll. */
    private static long[] firstRoll(long seed, long part, long faces) {
        long multiple = 0;
        while (multiple + faces <= 65536) {
            multiple += faces;
        }
        long rejected = 0;
        long state = (1105 * seed + 12345 + 2 * part) % 65536;
        while (state >= multiple) {
            rejected++;
            state = (1105 * state + 12345 + 2 * part) % 65536;
        }
        return new long[] {state % faces + 1, rejected};
    }

    private static void firstRollsOfAllSeeds() {
        for (int seed = 0; seed < 65536; seed++) {
            DiceForge x = withSeed(seed);
            int faces = 2 + seed % 999;
            int part = seed * 7 % 1000;
            x.setPart(seed % 4, part);
            long[] want = firstRoll(seed, part, faces);
            int table = seed % 4;
            Checks.due("the first roll of seed " + seed, want[0], () -> x.roll(0, table, faces));
            Checks.due("rejected of seed " + seed, want[1], () -> x.rejected(0));
        }
    }

    private static void rollThrows() {
        int min = Integer.MIN_VALUE;
        int max = Integer.MAX_VALUE;
        for (int promise : new int[] {-1, 2, 3, 16, min, max}) {
            Checks.unchanged("roll(" + promise + ", 0, 6)", RollsTest::threeRolls, Checks.INDEX,
                    x -> x.roll(promise, 0, 6));
            Checks.unchanged("roll(" + promise + ", 0, 1)", RollsTest::threeRolls, Checks.INDEX,
                    x -> x.roll(promise, 0, 1));
        }
        for (int table : new int[] {-1, 4, min, max}) {
            Checks.unchanged("roll(0, " + table + ", 6)", RollsTest::threeRolls, Checks.INDEX,
                    x -> x.roll(0, table, 6));
            Checks.unchanged("roll(0, " + table + ", 0)", RollsTest::threeRolls, Checks.INDEX,
                    x -> x.roll(0, table, 0));
            Checks.unchanged("roll(0, " + table + ", 6) when opened", RollsTest::opened, Checks.INDEX,
                    x -> x.roll(0, table, 6));
        }
        for (int faces : new int[] {1, 0, -1, 1001, min, max}) {
            Checks.unchanged("roll(0, 0, " + faces + ")", RollsTest::threeRolls, Checks.ARGUMENT,
                    x -> x.roll(0, 0, faces));
            Checks.unchanged("roll(0, 0, " + faces + ") when opened", RollsTest::opened, Checks.ARGUMENT,
                    x -> x.roll(0, 0, faces));
        }
        Checks.unchanged("roll(0, 0, 6) when opened", RollsTest::opened, Checks.STATE, x -> x.roll(0, 0, 6));
        Checks.thrown("roll(0, 0, 6) without promises", Checks.INDEX, () -> new DiceForge().roll(0, 0, 6));
    }

    private static DiceForge opened() {
        DiceForge x = threeRolls();
        x.open(0);
        return x;
    }

    private static DiceForge hundred() {
        DiceForge x = threeRolls();
        for (int e = 3; e < 100; e++) {
            x.roll(e % 2, e % 4, 6);
        }
        return x;
    }

    private static void hundredEntries() {
        DiceForge x = threeRolls();
        for (int e = 3; e < 100; e++) {
            int count = e;
            Checks.due("entries()", count, x::entries);
            x.roll(e % 2, e % 4, 6);
        }
        Checks.due("entries()", 100, x::entries);
        Checks.due("isStruck(99)", false, () -> x.isStruck(99));
        Checks.thrown("value(100)", Checks.INDEX, () -> x.value(100));
        Checks.unchanged("roll beyond 100", RollsTest::hundred, Checks.STATE, y -> y.roll(0, 0, 6));
        Checks.unchanged("roll beyond 100 of no promise", RollsTest::hundred, Checks.INDEX, y -> y.roll(2, 0, 6));
        Checks.unchanged("roll beyond 100 with 1 face", RollsTest::hundred, Checks.ARGUMENT, y -> y.roll(0, 0, 1));
    }

    private static void readEntries() {
        DiceForge x = threeRolls();
        Checks.due("value(0)", 4, () -> x.value(0));
        // 1105 + 12345 + 200 = 13650; 13650 % 20 + 1.
        Checks.due("value(1)", 11, () -> x.value(1));
        // 13653570 + 200 is 22282 by 65536.
        Checks.due("value(2)", 283, () -> x.value(2));
        Checks.due("entries()", 3, x::entries);
        for (int entry : NO_ENTRIES) {
            Checks.unchanged("value(" + entry + ")", RollsTest::threeRolls, Checks.INDEX, y -> y.value(entry));
            Checks.unchanged("rejected(" + entry + ")", RollsTest::threeRolls, Checks.INDEX, y -> y.rejected(entry));
            Checks.unchanged("sum(" + entry + ")", RollsTest::threeRolls, Checks.INDEX, y -> y.sum(entry));
        }
    }

    private static void sums() {
        DiceForge x = threeRolls();
        // 31 * 17 + 3 * 6 + 11 * 4
        Checks.due("sum(0)", 589, () -> x.sum(0));
        // 31 * 589 + 7 + 5 + 3 * 20 + 11 * 11
        Checks.due("sum(1)", 18452, () -> x.sum(1));
        // 31 * 18452 + 5 + 3 * 1000 + 11 * 283
        Checks.due("sum(2)", 578130, () -> x.sum(2));
        x.roll(0, 3, 2);
        // The state 1105 * 22282 + 12345 = 24633955 is 57955 by 65536: the value 2; 31 * 578130 + 15 + 6 + 22
        // is 17922073, which is 922022 by 1000003.
        Checks.due("sum(3)", 922022, () -> x.sum(3));
        DiceForge rejected = withSeed(8885);
        rejected.roll(0, 0, 1000);
        // 31 * 17 + 3 * 1000 + 11 * 25 + 2
        Checks.due("sum(0) with rejected draws", 3804, () -> rejected.sum(0));
        x.alter(0, 1);
        Checks.due("sum(0), altered", 589, () -> x.sum(0));
        Checks.due("sum(1) behind an altered entry", 18452, () -> x.sum(1));
        int value = x.roll(1, 0, 6);
        Checks.due("sum(4) from the kept sum", (31 * 922022 + 7 + 18 + 11 * value) % 1000003, () -> x.sum(4));
    }

    private static void alter() {
        DiceForge x = threeRolls();
        Checks.due("alter(0, 6)", 4, () -> x.alter(0, 6));
        Checks.due("value(0)", 6, () -> x.value(0));
        Checks.due("alter(0, 1)", 6, () -> x.alter(0, 1));
        Checks.due("alter(0, 1)", 1, () -> x.alter(0, 1));
        Checks.due("alter(1, 20)", 11, () -> x.alter(1, 20));
        Checks.due("alter(2, 1000)", 283, () -> x.alter(2, 1000));
        Checks.due("value(2)", 1000, () -> x.value(2));
        Checks.due("value(1)", 20, () -> x.value(1));
        x.open(0);
        Checks.due("alter(0, 4) when opened", 1, () -> x.alter(0, 4));
        Checks.due("rejected(0), altered", 0, () -> x.rejected(0));
        DiceForge y = threeRolls();
        y.alter(0, 1);
        Checks.due("roll after alter", threeRolls().roll(0, 0, 1000), () -> y.roll(0, 0, 1000));
    }

    private static DiceForge struck() {
        DiceForge x = threeRolls();
        x.alter(0, 1);
        x.open(0);
        x.dispute(0);
        return x;
    }

    private static void alterThrows() {
        for (int entry : NO_ENTRIES) {
            Checks.unchanged("alter(" + entry + ", 1)", RollsTest::threeRolls, Checks.INDEX, x -> x.alter(entry, 1));
            Checks.unchanged("alter(" + entry + ", 0)", RollsTest::threeRolls, Checks.INDEX, x -> x.alter(entry, 0));
        }
        for (int value : new int[] {0, -1, 7, 1000, Integer.MAX_VALUE, Integer.MIN_VALUE}) {
            Checks.unchanged("alter(0, " + value + ")", RollsTest::threeRolls, Checks.ARGUMENT,
                    x -> x.alter(0, value));
            Checks.unchanged("alter(0, " + value + ") when struck", RollsTest::struck, Checks.ARGUMENT,
                    x -> x.alter(0, value));
        }
        Checks.unchanged("alter(1, 21)", RollsTest::threeRolls, Checks.ARGUMENT, x -> x.alter(1, 21));
        Checks.unchanged("alter(2, 1001)", RollsTest::threeRolls, Checks.ARGUMENT, x -> x.alter(2, 1001));
        Checks.unchanged("alter(0, 4) when struck", RollsTest::struck, Checks.STATE, x -> x.alter(0, 4));
        Checks.unchanged("alter(2, 283) when struck", RollsTest::struck, Checks.STATE, x -> x.alter(2, 283));
        DiceForge x = struck();
        Checks.due("alter(1, 5) of another promise", 11, () -> x.alter(1, 5));
    }
}
