/** Promises 14 to 18: broken, found, wrong, dispute, isStruck. */
public final class AuditsTest {
    private static final int[] NO_ENTRIES = {-1, 6, 7, 100, Integer.MAX_VALUE, Integer.MIN_VALUE};
    private static final int[] NO_PROMISES = {-1, 2, 3, 16, Integer.MAX_VALUE, Integer.MIN_VALUE};

    public static void main(String[] args) {
        broken();
        found();
        foundAfterRejectedDraws();
        wrong();
        dispute();
        disputeOnce();
        throwing();
        Checks.finish();
    }

    /** Entries 0, 2 and 4 are of promise 0; entries 1, 3 and 5 of promise 1. */
    private static DiceForge sixRolls() {
        DiceForge x = new DiceForge();
        x.promise(0);
        x.promise(1);
        for (int e = 0; e < 6; e++) {
            x.setPart(e % 3, 50 * e);
            x.roll(e % 2, e % 3, 100);
        }
        return x;
    }

    private static int other(DiceForge x, int entry) {
        return x.value(entry) == 1 ? 2 : 1;
    }

    private static void broken() {
        DiceForge x = sixRolls();
        Checks.due("broken() of a whole log", -1, x::broken);
        int kept = x.alter(5, other(x, 5));
        Checks.due("broken() at the last entry", 5, x::broken);
        int second = x.alter(2, other(x, 2));
        Checks.due("broken() at the first of two", 2, x::broken);
        int first = x.alter(0, other(x, 0));
        Checks.due("broken() at the first entry", 0, x::broken);
        x.alter(0, first);
        Checks.due("broken() when the first is mended", 2, x::broken);
        x.alter(2, second);
        Checks.due("broken() when the second is mended", 5, x::broken);
        x.roll(0, 0, 6);
        Checks.due("broken() after one more roll", 5, x::broken);
        x.alter(5, kept);
        Checks.due("broken() when all are mended", -1, x::broken);
        x.alter(3, x.value(3));
        Checks.due("broken() when an entry got its own value", -1, x::broken);
        x.alter(3, other(x, 3));
        x.open(1);
        x.dispute(1);
        Checks.due("broken() at a struck entry", 3, x::broken);
    }

    private static void found() {
        DiceForge x = sixRolls();
        int[] values = new int[6];
        for (int e = 0; e < 6; e++) {
            values[e] = x.value(e);
            x.alter(e, other(x, e));
        }
        x.open(1);
        for (int e = 0; e < 6; e++) {
            int entry = e;
            if (e % 2 == 0) {
                Checks.thrown("found(" + e + ") when not opened", Checks.STATE, () -> x.found(entry));
            } else {
                Checks.due("found(" + e + ")", values[e], () -> x.found(entry));
            }
        }
        x.dispute(1);
        x.open(0);
        for (int e = 5; e >= 0; e--) {
            int entry = e;
            Checks.due("found(" + e + ") of any order", values[e], () -> x.found(entry));
            Checks.due("found(" + e + ") again", values[e], () -> x.found(entry));
        }
    }

    private static void foundAfterRejectedDraws() {
        DiceForge x = new DiceForge();
        // Its first roll with 1000 faces has two rejected draws.
        x.promise(8885);
        int[] values = new int[100];
        for (int e = 0; e < 100; e++) {
            x.setPart(e % 4, e * 10);
            values[e] = x.roll(0, e % 4, e == 0 ? 1000 : 1000 - e);
        }
        x.open(0);
        for (int e = 0; e < 100; e++) {
            int entry = e;
            Checks.due("found(" + e + ") behind rejected draws", values[e], () -> x.found(entry));
        }
        Checks.due("wrong(0) behind rejected draws", -1, () -> x.wrong(0));
        x.alter(99, other(x, 99));
        Checks.due("wrong(0) at entry 99", 99, () -> x.wrong(0));
        Checks.due("dispute(0) at entry 99", 1, () -> x.dispute(0));
    }

    private static void wrong() {
        DiceForge x = sixRolls();
        x.open(0);
        Checks.due("wrong(0) of a whole log", -1, () -> x.wrong(0));
        int before = x.alter(4, other(x, 4));
        Checks.due("wrong(0) at entry 4", 4, () -> x.wrong(0));
        x.alter(1, other(x, 1));
        Checks.due("wrong(0) beside another's entry", 4, () -> x.wrong(0));
        x.alter(2, other(x, 2));
        Checks.due("wrong(0) at entry 2", 2, () -> x.wrong(0));
        x.alter(0, other(x, 0));
        Checks.due("wrong(0) at entry 0", 0, () -> x.wrong(0));
        x.open(1);
        Checks.due("wrong(1) at entry 1", 1, () -> x.wrong(1));
        x.dispute(0);
        Checks.due("wrong(0) of struck entries", 0, () -> x.wrong(0));
        DiceForge mended = sixRolls();
        mended.alter(4, other(mended, 4));
        mended.alter(4, before);
        mended.open(0);
        Checks.due("wrong(0), altered back", -1, () -> mended.wrong(0));
        DiceForge without = new DiceForge();
        without.promise(3);
        without.open(0);
        Checks.due("wrong(0) without entries", -1, () -> without.wrong(0));
        Checks.due("dispute(0) without entries", 0, () -> without.dispute(0));
    }

    private static void dispute() {
        for (int first = 0; first < 6; first++) {
            DiceForge x = sixRolls();
            int promise = first % 2;
            x.open(promise);
            x.alter(first, other(x, first));
            int due = (7 - first) / 2;
            Checks.due("dispute at entry " + first, due, () -> x.dispute(promise));
            for (int e = 0; e < 6; e++) {
                int entry = e;
                boolean struck = e >= first && e % 2 == promise;
                Checks.due("isStruck(" + e + ") from " + first, struck, () -> x.isStruck(entry));
            }
        }
        DiceForge both = sixRolls();
        both.alter(2, other(both, 2));
        both.alter(1, other(both, 1));
        both.open(0);
        both.open(1);
        Checks.due("dispute(0)", 2, () -> both.dispute(0));
        Checks.due("dispute(1)", 3, () -> both.dispute(1));
    }

    private static void disputeOnce() {
        DiceForge x = sixRolls();
        x.open(0);
        Checks.due("dispute(0) of a whole log", 0, () -> x.dispute(0));
        for (int e = 0; e < 6; e++) {
            int entry = e;
            Checks.due("isStruck(" + e + ") of a whole log", false, () -> x.isStruck(entry));
        }
        x.alter(0, other(x, 0));
        Checks.thrown("dispute(0) again, now wrong", Checks.STATE, () -> x.dispute(0));
        Checks.due("isStruck(0) after both", false, () -> x.isStruck(0));
        x.open(1);
        Checks.due("dispute(1) after dispute(0)", 0, () -> x.dispute(1));
    }

    private static DiceForge disputed() {
        DiceForge x = sixRolls();
        x.alter(2, other(x, 2));
        x.open(0);
        x.dispute(0);
        return x;
    }

    private static void throwing() {
        for (int entry : NO_ENTRIES) {
            Checks.unchanged("found(" + entry + ")", AuditsTest::sixRolls, Checks.INDEX, x -> x.found(entry));
            Checks.unchanged("isStruck(" + entry + ")", AuditsTest::disputed, Checks.INDEX, x -> x.isStruck(entry));
        }
        for (int promise : NO_PROMISES) {
            Checks.unchanged("wrong(" + promise + ")", AuditsTest::disputed, Checks.INDEX, x -> x.wrong(promise));
            Checks.unchanged("dispute(" + promise + ")", AuditsTest::disputed, Checks.INDEX, x -> x.dispute(promise));
        }
        Checks.unchanged("found(1) when not opened", AuditsTest::disputed, Checks.STATE, x -> x.found(1));
        Checks.unchanged("wrong(1) when not opened", AuditsTest::disputed, Checks.STATE, x -> x.wrong(1));
        Checks.unchanged("dispute(1) when not opened", AuditsTest::disputed, Checks.STATE, x -> x.dispute(1));
        Checks.unchanged("dispute(0) again", AuditsTest::disputed, Checks.STATE, x -> x.dispute(0));
    }
}
