import java.util.ArrayList;
import java.util.Arrays;

/** A forge of fair dice for tables: promised seeds, rolls, a log with sums, audits and disputes. */
public final class DiceForge {
    /** There is none. */
    public static final int NONE = -1;

    private static final int SEEDS = 65536;
    private static final int MAX_PROMISES = 16;
    private static final int SIGNS = 10007;
    private static final int SIGN_FACTOR = 31;
    private static final int SIGN_ADDEND = 7;
    private static final int TABLES = 4;
    private static final int MAX_PART = 999;
    private static final int MIN_FACES = 2;
    private static final int MAX_FACES = 1000;
    private static final int MAX_ENTRIES = 100;
    private static final int STATES = 65536;
    private static final int STATE_FACTOR = 1105;
    private static final int STATE_ADDEND = 12345;
    private static final int SUM_BEFORE_FIRST = 17;
    private static final int SUMS = 1000003;

    private final ArrayList<Promise> promises;
    private final ArrayList<Entry> log;
    private final int[] parts;
    /** How often each value was met, made anew by each call of uneven. */
    private final int[] tally;

    public DiceForge() {
        promises = new ArrayList<>();
        log = new ArrayList<>();
        parts = new int[TABLES];
        tally = new int[MAX_FACES + 1];
    }

    // ---- seeds and tables

    public int promise(int seed) throws IllegalArgumentException, IllegalStateException {
        if (seed < 0 || seed >= SEEDS) {
            throw new IllegalArgumentException("a seed is 0 to 65535");
        }
        if (promises.size() >= MAX_PROMISES) {
            throw new IllegalStateException("there are 16 promises");
        }
        promises.add(new Promise(seed));
        return promises.size() - 1;
    }

    public int sign(int promise) throws IndexOutOfBoundsException {
        // The square of a seed may be more than an int holds.
        long seed = promiseAt(promise).seed;
        return (int) ((seed * seed + SIGN_FACTOR * seed + SIGN_ADDEND) % SIGNS);
    }

    public int seedsOf(int promise) throws IndexOutOfBoundsException {
        // SIGNS is a prime: two seeds have the same sign just if it divides their
        // difference, or their sum and SIGN_FACTOR together.
        int seed = promiseAt(promise).seed;
        int remainder = seed % SIGNS;
        int mirrored = Math.floorMod(-SIGN_FACTOR - seed, SIGNS);
        int seeds = seedsWithRemainder(remainder);
        return mirrored == remainder ? seeds : seeds + seedsWithRemainder(mirrored);
    }

    public int open(int promise) throws IndexOutOfBoundsException, IllegalStateException {
        Promise opening = promiseAt(promise);
        if (opening.opened) {
            throw new IllegalStateException("the promise is opened");
        }
        opening.opened = true;
        return opening.seed;
    }

    public boolean isOpened(int promise) throws IndexOutOfBoundsException {
        return promiseAt(promise).opened;
    }

    public int setPart(int table, int part) throws IndexOutOfBoundsException, IllegalArgumentException {
        requireTable(table);
        if (part < 0 || part > MAX_PART) {
            throw new IllegalArgumentException("a part is 0 to 999");
        }
        int before = parts[table];
        parts[table] = part;
        return before;
    }

    // ---- rolls

    public int roll(int promise, int table, int faces)
            throws IndexOutOfBoundsException, IllegalArgumentException, IllegalStateException {
        Promise rolling = promiseAt(promise);
        requireTable(table);
        requireFaces(faces);
        if (rolling.opened) {
            throw new IllegalStateException("the promise is opened");
        }
        if (log.size() >= MAX_ENTRIES) {
            throw new IllegalStateException("there are 100 entries");
        }
        Entry entry = new Entry(promise, table, parts[table], faces);
        entry.value = rolling.draws.nextValue(entry.part, faces);
        entry.rejected = rolling.draws.rejected;
        entry.sum = entry.sumAfter(lastSum());
        log.add(entry);
        return entry.value;
    }

    public int entries() {
        return log.size();
    }

    public int value(int entry) throws IndexOutOfBoundsException {
        return entryAt(entry).value;
    }

    public int rejected(int entry) throws IndexOutOfBoundsException {
        return entryAt(entry).rejected;
    }

    public int sum(int entry) throws IndexOutOfBoundsException {
        return entryAt(entry).sum;
    }

    public int alter(int entry, int value)
            throws IndexOutOfBoundsException, IllegalArgumentException, IllegalStateException {
        Entry altered = entryAt(entry);
        requireValue(value, altered.faces);
        if (altered.struck) {
            throw new IllegalStateException("the entry is struck");
        }
        int before = altered.value;
        altered.value = value;
        return before;
    }

    // ---- audits and disputes

    public int broken() {
        int sumBefore = SUM_BEFORE_FIRST;
        for (int i = 0; i < log.size(); i++) {
            Entry entry = log.get(i);
            if (entry.sum != entry.sumAfter(sumBefore)) {
                return i;
            }
            sumBefore = entry.sum;
        }
        return NONE;
    }

    public int found(int entry) throws IndexOutOfBoundsException, IllegalStateException {
        int promise = entryAt(entry).promise;
        Draws again = new Draws(openedAt(promise).seed);
        int value = NONE;
        for (int i = 0; i <= entry && i < log.size(); i++) {
            Entry earlier = log.get(i);
            if (earlier.promise == promise) {
                value = again.nextValue(earlier.part, earlier.faces);
            }
        }
        return value;
    }

    public int wrong(int promise) throws IndexOutOfBoundsException, IllegalStateException {
        return firstWrong(promise, openedAt(promise).seed);
    }

    public int dispute(int promise) throws IndexOutOfBoundsException, IllegalStateException {
        Promise disputing = openedAt(promise);
        if (disputing.disputed) {
            throw new IllegalStateException("the promise was disputed");
        }
        disputing.disputed = true;
        int first = firstWrong(promise, disputing.seed);
        return first == NONE ? 0 : strikeFrom(first, promise);
    }

    public boolean isStruck(int entry) throws IndexOutOfBoundsException {
        return entryAt(entry).struck;
    }

    // ---- counts

    public int count(int faces, int value) throws IllegalArgumentException {
        requireFaces(faces);
        requireValue(value, faces);
        int counted = 0;
        for (int i = 0; i < log.size(); i++) {
            Entry entry = log.get(i);
            if (entry.countsFor(faces) && entry.value == value) {
                counted++;
            }
        }
        return counted;
    }

    public long uneven(int faces) throws IllegalArgumentException {
        requireFaces(faces);
        int all = tallyValues(faces);
        long squares = 0;
        for (int value = 1; value <= faces && value < tally.length; value++) {
            // The squares of 100 entries with 1000 faces are more than an int holds.
            long difference = (long) faces * tally[value] - all;
            squares += difference * difference;
        }
        return squares;
    }

    public int total(int table) throws IndexOutOfBoundsException {
        requireTable(table);
        int values = 0;
        for (int i = 0; i < log.size(); i++) {
            Entry entry = log.get(i);
            if (entry.table == table && !entry.struck) {
                values += entry.value;
            }
        }
        return values;
    }

    // ---- what the calls share

    private Promise promiseAt(int promise) {
        if (promise < 0 || promise >= promises.size()) {
            throw new IndexOutOfBoundsException("there is no such promise");
        }
        return promises.get(promise);
    }

    private Promise openedAt(int promise) {
        Promise opened = promiseAt(promise);
        if (!opened.opened) {
            throw new IllegalStateException("the promise is not opened");
        }
        return opened;
    }

    private Entry entryAt(int entry) {
        if (entry < 0 || entry >= log.size()) {
            throw new IndexOutOfBoundsException("there is no such entry");
        }
        return log.get(entry);
    }

    private static void requireTable(int table) {
        if (table < 0 || table >= TABLES) {
            throw new IndexOutOfBoundsException("there is no such table");
        }
    }

    private static void requireFaces(int faces) {
        if (faces < MIN_FACES || faces > MAX_FACES) {
            throw new IllegalArgumentException("a die has 2 to 1000 faces");
        }
    }

    private static void requireValue(int value, int faces) {
        if (value < 1 || value > faces) {
            throw new IllegalArgumentException("a value is 1 to the faces");
        }
    }

    private static int seedsWithRemainder(int remainder) {
        return (SEEDS - 1 - remainder) / SIGNS + 1;
    }

    private int lastSum() {
        return log.isEmpty() ? SUM_BEFORE_FIRST : log.get(log.size() - 1).sum;
    }

    private int firstWrong(int promise, int seed) {
        Draws again = new Draws(seed);
        for (int i = 0; i < log.size(); i++) {
            Entry entry = log.get(i);
            if (entry.promise == promise && entry.value != again.nextValue(entry.part, entry.faces)) {
                return i;
            }
        }
        return NONE;
    }

    private int strikeFrom(int first, int promise) {
        int strikes = 0;
        for (int i = Math.max(first, 0); i < log.size(); i++) {
            Entry entry = log.get(i);
            if (entry.promise == promise) {
                entry.struck = true;
                strikes++;
            }
        }
        return strikes;
    }

    private int tallyValues(int faces) {
        Arrays.fill(tally, 0);
        int all = 0;
        for (int i = 0; i < log.size(); i++) {
            Entry entry = log.get(i);
            if (entry.countsFor(faces) && entry.value >= 0 && entry.value < tally.length) {
                tally[entry.value]++;
                all++;
            }
        }
        return all;
    }

    /** A promised seed and the draws that its rolls have come to. */
    private static final class Promise {
        private final int seed;
        private final Draws draws;
        private boolean opened;
        private boolean disputed;

        private Promise(int seed) {
            this.seed = seed;
            draws = new Draws(seed);
        }
    }

    /** A roll in the log. */
    private static final class Entry {
        private final int promise;
        private final int table;
        private final int part;
        private final int faces;
        private int value;
        private int rejected;
        private int sum;
        private boolean struck;

        private Entry(int promise, int table, int part, int faces) {
            this.promise = promise;
            this.table = table;
            this.part = part;
            this.faces = faces;
        }

        private int sumAfter(int sumBefore) {
            int numbers = 7 * promise + 5 * table + 3 * faces + 11 * value + rejected;
            return (31 * sumBefore + numbers) % SUMS;
        }

        private boolean countsFor(int someFaces) {
            return faces == someFaces && !struck;
        }
    }

    /** The draws of one seed, one after the other: for the rolls, and to find them again. */
    private static final class Draws {
        private int state;
        /** How many draws were rejected for the last value. */
        private int rejected;

        private Draws(int seed) {
            state = seed;
        }

        private int nextValue(int part, int faces) {
            rejected = 0;
            // Each die in the log has passed requireFaces; this test keeps the divisor from 0.
            if (faces < MIN_FACES) {
                return NONE;
            }
            int limit = STATES - STATES % faces;
            draw(part);
            // The draws go through all states in turn, so one below the limit comes before the bound.
            while (state >= limit && rejected < STATES) {
                rejected++;
                draw(part);
            }
            return state % faces + 1;
        }

        private void draw(int part) {
            state = (STATE_FACTOR * state + STATE_ADDEND + 2 * part) % STATES;
        }
    }
}
