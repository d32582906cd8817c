/** Promises 1 to 7: a new object, promise, sign, seedsOf, open, isOpened, setPart. */
public final class SeedsTest {
    private static final int[] NO_PROMISES = {-1, 1, 2, 15, 16, Integer.MAX_VALUE, Integer.MIN_VALUE};
    private static final int[] NO_TABLES = {-1, 4, 5, Integer.MAX_VALUE, Integer.MIN_VALUE};

    public static void main(String[] args) {
        newObject();
        promise();
        promiseThrows();
        sign();
        seedsOf();
        allSeeds();
        open();
        isOpened();
        setPart();
        partsInRolls();
        Checks.finish();
    }

    private static DiceForge withSeeds(int... seeds) {
        DiceForge x = new DiceForge();
        for (int seed : seeds) {
            x.promise(seed);
        }
        return x;
    }

    private static DiceForge full() {
        DiceForge x = new DiceForge();
        for (int p = 0; p < 16; p++) {
            x.promise(p);
        }
        return x;
    }

    private static void newObject() {
        DiceForge x = new DiceForge();
        Checks.due("NONE", -1, () -> DiceForge.NONE);
        Checks.due("entries() of a new object", 0, x::entries);
        Checks.due("broken() of a new object", -1, x::broken);
        Checks.thrown("sign(0) of a new object", Checks.INDEX, () -> x.sign(0));
        Checks.thrown("value(0) of a new object", Checks.INDEX, () -> x.value(0));
        Checks.due("count(6, 1) of a new object", 0, () -> x.count(6, 1));
        Checks.due("uneven(6) of a new object", 0, () -> x.uneven(6));
        for (int t = 0; t < 4; t++) {
            int table = t;
            Checks.due("total of a new object", 0, () -> x.total(table));
            Checks.due("first setPart of a new object", 0, () -> x.setPart(table, 1));
        }
        DiceForge other = new DiceForge();
        Checks.due("setPart of another object", 0, () -> other.setPart(0, 0));
    }

    private static void promise() {
        DiceForge x = new DiceForge();
        int[] seeds = {0, 65535, 7, 7, 1, 2, 3, 4, 5, 6, 8, 9, 10, 11, 12, 32768};
        for (int p = 0; p < 16; p++) {
            int seed = seeds[p];
            Checks.due("promise number " + p, p, () -> x.promise(seed));
        }
        for (int p = 0; p < 16; p++) {
            int promise = p;
            Checks.due("open(" + p + ")", seeds[p], () -> x.open(promise));
        }
        Checks.thrown("promise when all 16 are opened", Checks.STATE, () -> x.promise(0));
    }

    private static void promiseThrows() {
        for (int seed : new int[] {-1, 65536, Integer.MAX_VALUE, Integer.MIN_VALUE}) {
            Checks.unchanged("promise(" + seed + ")", DiceForge::new, Checks.ARGUMENT, x -> x.promise(seed));
            Checks.unchanged("promise(" + seed + ") beyond 16", SeedsTest::full, Checks.ARGUMENT, x -> x.promise(seed));
        }
        Checks.unchanged("promise(0) beyond 16", SeedsTest::full, Checks.STATE, x -> x.promise(0));
        Checks.unchanged("promise(65535) beyond 16", SeedsTest::full, Checks.STATE, x -> x.promise(65535));
    }

    private static void sign() {
        // 65535 * 65535 is more than an int holds: 4294836225 + 2031585 + 7 by 10007.
        int[][] signs = {{0, 7}, {1, 39}, {2, 73}, {65535, 2115}, {3799, 10006}, {2307, 0}, {9977, 9984}};
        for (int[] s : signs) {
            DiceForge x = withSeeds(s[0]);
            Checks.due("sign of seed " + s[0], s[1], () -> x.sign(0));
            x.open(0);
            Checks.due("sign of the opened seed " + s[0], s[1], () -> x.sign(0));
        }
        DiceForge two = withSeeds(0, 1);
        two.roll(0, 0, 6);
        Checks.due("sign(0) after a roll", 7, () -> two.sign(0));
        Checks.due("sign(1)", 39, () -> two.sign(1));
        for (int promise : NO_PROMISES) {
            Checks.unchanged("sign(" + promise + ")", () -> withSeeds(9), Checks.INDEX, x -> x.sign(promise));
        }
    }

    private static void seedsOf() {
        int[][] known = {{0, 13}, {4483, 14}, {65535, 14}, {9977, 12}, {4988, 7}};
        for (int[] k : known) {
            DiceForge x = withSeeds(k[0]);
            x.roll(0, 0, 6);
            Checks.due("seedsOf of seed " + k[0], k[1], () -> x.seedsOf(0));
            x.open(0);
            Checks.due("seedsOf of the opened seed " + k[0], k[1], () -> x.seedsOf(0));
        }
        for (int promise : NO_PROMISES) {
            Checks.unchanged("seedsOf(" + promise + ")", () -> withSeeds(9), Checks.INDEX, x -> x.seedsOf(promise));
        }
    }

    private static long signOf(long seed) {
        return (seed * seed + 31 * seed + 7) % 10007;
    }

    private static void allSeeds() {
        int[] seedsOfSign = new int[10007];
        for (int seed = 0; seed < 65536; seed++) {
            seedsOfSign[(int) signOf(seed)]++;
        }
        for (int first = 0; first < 65536; first += 16) {
            DiceForge x = new DiceForge();
            for (int p = 0; p < 16; p++) {
                int seed = first + p;
                int promise = x.promise(seed);
                Checks.due("sign of seed " + seed, signOf(seed), () -> x.sign(promise));
                Checks.due("seedsOf of seed " + seed, seedsOfSign[(int) signOf(seed)], () -> x.seedsOf(promise));
            }
        }
    }

    private static void open() {
        DiceForge x = withSeeds(0, 65535, 12345);
        x.roll(1, 0, 6);
        Checks.due("open(1)", 65535, () -> x.open(1));
        Checks.thrown("open(1) again", Checks.STATE, () -> x.open(1));
        Checks.thrown("roll(1, 0, 6) when opened", Checks.STATE, () -> x.roll(1, 0, 6));
        Checks.due("roll(0, 0, 6) when another is opened", 4, () -> x.roll(0, 0, 6));
        Checks.due("open(0)", 0, () -> x.open(0));
        Checks.due("open(2)", 12345, () -> x.open(2));
        Checks.due("entries() after all", 2, x::entries);
        for (int promise : NO_PROMISES) {
            Checks.unchanged("open(" + promise + ")", () -> withSeeds(9), Checks.INDEX, y -> y.open(promise));
        }
        Checks.unchanged("open(0) again", SeedsTest::oneOpened, Checks.STATE, y -> y.open(0));
    }

    private static DiceForge oneOpened() {
        DiceForge x = withSeeds(9, 10);
        x.roll(0, 0, 6);
        x.open(0);
        return x;
    }

    private static void isOpened() {
        DiceForge x = withSeeds(9, 10);
        Checks.due("isOpened(0) at first", false, () -> x.isOpened(0));
        x.open(1);
        Checks.due("isOpened(0) when 1 is", false, () -> x.isOpened(0));
        Checks.due("isOpened(1)", true, () -> x.isOpened(1));
        x.open(0);
        Checks.due("isOpened(0)", true, () -> x.isOpened(0));
        for (int promise : NO_PROMISES) {
            Checks.unchanged("isOpened(" + promise + ")", () -> withSeeds(9), Checks.INDEX, y -> y.isOpened(promise));
        }
    }

    private static DiceForge withParts() {
        DiceForge x = withSeeds(9);
        x.setPart(0, 1);
        x.setPart(1, 20);
        x.setPart(2, 300);
        x.setPart(3, 999);
        return x;
    }

    private static void setPart() {
        DiceForge x = withParts();
        Checks.due("setPart(0, 999)", 1, () -> x.setPart(0, 999));
        Checks.due("setPart(0, 0)", 999, () -> x.setPart(0, 0));
        Checks.due("setPart(1, 20)", 20, () -> x.setPart(1, 20));
        Checks.due("setPart(1, 21)", 20, () -> x.setPart(1, 21));
        Checks.due("setPart(2, 0)", 300, () -> x.setPart(2, 0));
        Checks.due("setPart(3, 0)", 999, () -> x.setPart(3, 0));
        Checks.due("setPart(0, 5)", 0, () -> x.setPart(0, 5));
        for (int table : NO_TABLES) {
            Checks.unchanged("setPart(" + table + ", 5)", SeedsTest::withParts, Checks.INDEX, y -> y.setPart(table, 5));
            Checks.unchanged("setPart(" + table + ", 1000)", SeedsTest::withParts, Checks.INDEX,
                    y -> y.setPart(table, 1000));
        }
        for (int part : new int[] {-1, 1000, Integer.MAX_VALUE, Integer.MIN_VALUE}) {
            for (int t = 0; t < 4; t++) {
                int table = t;
                Checks.unchanged("setPart(" + t + ", " + part + ")", SeedsTest::withParts, Checks.ARGUMENT,
                        y -> y.setPart(table, part));
            }
        }
    }

    private static void partsInRolls() {
        DiceForge x = withSeeds(0, 0, 0);
        // 12345 % 1000 + 1, then (12345 + 2 * 999) % 1000 + 1: the part of the rolling table, of then.
        Checks.due("a roll without a part", 346, () -> x.roll(0, 0, 1000));
        x.setPart(0, 999);
        Checks.due("a roll with a part", 344, () -> x.roll(1, 0, 1000));
        Checks.due("a roll of a table without a part", 346, () -> x.roll(2, 1, 1000));
        x.setPart(0, 7);
        x.open(0);
        x.open(1);
        Checks.due("found(0) with the part of then", 346, () -> x.found(0));
        Checks.due("found(1) with the part of then", 344, () -> x.found(1));
        Checks.due("broken() with parts changed", -1, x::broken);
    }
}
