import java.util.ArrayList;
import java.util.HashSet;
import java.util.List;
import java.util.Set;

/** The document's rules once more, word by word and without thrift, for runs of calls on both. */
public final class ForgeModel {
    record Roll(int promise, int table, int part, int faces, int rolled, int rejected, long sum) { }

    private static final int[] SEEDS_OF_SIGN = seedsOfSign();

    private final List<Integer> seeds = new ArrayList<>();
    private final List<List<Integer>> states = new ArrayList<>();
    private final Set<Integer> opened = new HashSet<>();
    private final Set<Integer> disputed = new HashSet<>();
    private final int[] parts = new int[4];
    private final List<Roll> rolls = new ArrayList<>();
    private final List<Integer> values = new ArrayList<>();
    private final Set<Integer> struck = new HashSet<>();

    private static int signOf(long seed) {
        return (int) ((seed * seed + 31 * seed + 7) % 10007);
    }

    private static int[] seedsOfSign() {
        int[] counts = new int[10007];
        for (int seed = 0; seed <= 65535; seed++) {
            counts[signOf(seed)]++;
        }
        return counts;
    }

    private static void index(int number, int size) {
        if (number < 0 || number >= size) {
            throw new IndexOutOfBoundsException();
        }
    }

    private static void range(int number, int least, int most) {
        if (number < least || number > most) {
            throw new IllegalArgumentException();
        }
    }

    private static void state(boolean fits) {
        if (!fits) {
            throw new IllegalStateException();
        }
    }

    public int promise(int seed) {
        range(seed, 0, 65535);
        state(seeds.size() < 16);
        seeds.add(seed);
        states.add(new ArrayList<>(List.of(seed)));
        return seeds.size() - 1;
    }

    public int sign(int promise) {
        index(promise, seeds.size());
        return signOf(seeds.get(promise));
    }

    public int seedsOf(int promise) {
        index(promise, seeds.size());
        return SEEDS_OF_SIGN[signOf(seeds.get(promise))];
    }

    public int open(int promise) {
        index(promise, seeds.size());
        state(opened.add(promise));
        return seeds.get(promise);
    }

    public boolean isOpened(int promise) {
        index(promise, seeds.size());
        return opened.contains(promise);
    }

    public int setPart(int table, int part) {
        index(table, 4);
        range(part, 0, 999);
        int before = parts[table];
        parts[table] = part;
        return before;
    }

    public int roll(int promise, int table, int faces) {
        index(promise, seeds.size());
        index(table, 4);
        range(faces, 2, 1000);
        state(!opened.contains(promise));
        state(rolls.size() < 100);
        List<Integer> drawn = states.get(promise);
        int before = drawn.size();
        int state;
        do {
            long last = drawn.get(drawn.size() - 1);
            state = (int) ((1105 * last + 12345 + 2 * parts[table]) % 65536);
            drawn.add(state);
        } while (state >= 65536 / faces * faces);
        int rejected = drawn.size() - before - 1;
        int value = state % faces + 1;
        long last = rolls.isEmpty() ? 17 : rolls.get(rolls.size() - 1).sum();
        long sum = (31 * last + 7 * promise + 5 * table + 3 * faces + 11 * value + rejected) % 1000003;
        rolls.add(new Roll(promise, table, parts[table], faces, value, rejected, sum));
        values.add(value);
        return value;
    }

    public int entries() {
        return rolls.size();
    }

    public int value(int entry) {
        index(entry, rolls.size());
        return values.get(entry);
    }

    public int rejected(int entry) {
        index(entry, rolls.size());
        return rolls.get(entry).rejected();
    }

    public int sum(int entry) {
        index(entry, rolls.size());
        return (int) rolls.get(entry).sum();
    }

    public int alter(int entry, int value) {
        index(entry, rolls.size());
        range(value, 1, rolls.get(entry).faces());
        state(!struck.contains(entry));
        return values.set(entry, value);
    }

    /** Only an altered value can make the rule give another sum: 11 times a difference below 1000 is no 1000003. */
    public int broken() {
        return firstAltered(-1);
    }

    public int found(int entry) {
        index(entry, rolls.size());
        state(opened.contains(rolls.get(entry).promise()));
        return rolls.get(entry).rolled();
    }

    public int wrong(int promise) {
        index(promise, seeds.size());
        state(opened.contains(promise));
        return firstAltered(promise);
    }

    private int firstAltered(int promise) {
        for (int e = 0; e < rolls.size(); e++) {
            boolean looked = promise < 0 || rolls.get(e).promise() == promise;
            if (looked && values.get(e) != rolls.get(e).rolled()) {
                return e;
            }
        }
        return -1;
    }

    public int dispute(int promise) {
        index(promise, seeds.size());
        state(opened.contains(promise));
        state(disputed.add(promise));
        int first = firstAltered(promise);
        int before = struck.size();
        for (int e = 0; e < rolls.size(); e++) {
            if (first >= 0 && e >= first && rolls.get(e).promise() == promise) {
                struck.add(e);
            }
        }
        return struck.size() - before;
    }

    public boolean isStruck(int entry) {
        index(entry, rolls.size());
        return struck.contains(entry);
    }

    public int count(int faces, int value) {
        range(faces, 2, 1000);
        range(value, 1, faces);
        int counted = 0;
        for (int e = 0; e < rolls.size(); e++) {
            if (!struck.contains(e) && rolls.get(e).faces() == faces && values.get(e) == value) {
                counted++;
            }
        }
        return counted;
    }

    public long uneven(int faces) {
        range(faces, 2, 1000);
        long all = 0;
        for (int value = 1; value <= faces; value++) {
            all += count(faces, value);
        }
        long uneven = 0;
        for (int value = 1; value <= faces; value++) {
            long difference = (long) faces * count(faces, value) - all;
            uneven += difference * difference;
        }
        return uneven;
    }

    public int total(int table) {
        index(table, 4);
        int total = 0;
        for (int e = 0; e < rolls.size(); e++) {
            if (!struck.contains(e) && rolls.get(e).table() == table) {
                total += values.get(e);
            }
        }
        return total;
    }
}
