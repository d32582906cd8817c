import java.util.function.Consumer;
import java.util.function.Supplier;

/** What the tests share: each counts and prints the calls whose answer is not the one that is due. */
final class Checks {
    static final Class<?> INDEX = IndexOutOfBoundsException.class;
    static final Class<?> ARGUMENT = IllegalArgumentException.class;
    static final Class<?> STATE = IllegalStateException.class;

    private static int checked;
    private static int wrong;

    private Checks() { }

    interface Call {
        Object answer();
    }

    static void due(String call, Object want, Call made) {
        String got = told(made);
        checked++;
        if (!got.equals(String.valueOf(want))) {
            wrong++;
            System.out.println(call + " answered " + got + ", due is " + want);
        }
    }

    static void thrown(String call, Class<?> want, Call made) {
        due(call, "throws." + want.getSimpleName(), made);
    }

    /** Two objects made alike stay alike when one of them gets calls that throw. */
    static void unchanged(String call, Supplier<DiceForge> maker, Class<?> want, Consumer<DiceForge> throwing) {
        DiceForge touched = maker.get();
        thrown(call, want, () -> {
            throwing.accept(touched);
            return "nothing";
        });
        String untouched = stateOf(maker.get());
        due("the state after " + call, untouched, () -> stateOf(touched));
    }

    static String told(Call made) {
        try {
            return String.valueOf(made.answer());
        } catch (RuntimeException e) {
            return told(e);
        }
    }

    /**
     * An exception as a text. The machine's own have names that are never due, and the
     * library's are told apart by where they come from: the class itself must throw.
     */
    static String told(Throwable thrown) {
        StackTraceElement[] trace = thrown.getStackTrace();
        boolean byForge = trace.length > 0 && trace[0].getClassName().matches("(DiceForge|ForgeModel)(\\$.*)?");
        return (byForge ? "throws." : "library throws.") + thrown.getClass().getSimpleName();
    }

    /** Everything that calls can tell of an object; the last of these calls change it. */
    static String stateOf(DiceForge x) {
        StringBuilder told = new StringBuilder();
        told.append(x.entries()).append(" entries, broken ").append(x.broken());
        // A long log is looked at here and there, so that no object gets more than 512 calls.
        int entries = x.entries();
        for (int e = entries - 1; e >= 0; e -= 1 + entries / 20) {
            int entry = e;
            told.append("; ").append(x.value(e)).append(' ').append(x.rejected(e)).append(' ').append(x.sum(e));
            told.append(' ').append(x.isStruck(e)).append(' ').append(told(() -> x.found(entry)));
        }
        for (int t = 0; t < 4; t++) {
            told.append("; table ").append(x.total(t)).append(' ').append(x.setPart(t, 0));
        }
        for (int p = 0; p < 16; p++) {
            int promise = p;
            told.append("; promise ").append(told(() -> x.isOpened(promise)));
            told.append(' ').append(told(() -> x.roll(promise, 0, 1000)));
            told.append(' ').append(told(() -> x.open(promise)));
            told.append(' ').append(told(() -> x.dispute(promise)));
        }
        told.append("; next ").append(told(() -> x.promise(5)));
        return told.toString();
    }

    static void finish() {
        System.out.println(checked + " checked, " + wrong + " wrong");
        if (wrong > 0 || checked == 0) {
            System.exit(1);
        }
    }
}
