import java.lang.reflect.InvocationTargetException;
import java.lang.reflect.Method;
import java.lang.reflect.Modifier;
import java.util.ArrayList;
import java.util.Comparator;
import java.util.List;
import java.util.TreeSet;

/** Runs of 512 calls with mixed arguments on the class and on ForgeModel; each answer must be the same. */
public final class RandomRunsTest {
    private static final int RUNS = 400;
    private static final int CALLS = 512;
    private static final int[] FACES = {2, 3, 6, 6, 6, 20, 601, 964, 997, 999, 1000, 1000};
    private static final int[] ODD = {-1, 0, 1, 4, 16, 100, 1000, 1001, 65536, Integer.MIN_VALUE, Integer.MAX_VALUE};

    private static final TreeSet<String> met = new TreeSet<>();
    private static final List<Method> METHODS = methods();

    private final DiceForge forge = new DiceForge();
    private final ForgeModel model = new ForgeModel();
    private final StringBuilder calls = new StringBuilder();
    private long random;
    private int seeds;

    private RandomRunsTest(int run) {
        random = run * 7919L + 1;
    }

    public static void main(String[] args) {
        for (int run = 0; run < RUNS; run++) {
            if (!new RandomRunsTest(run).allSame(run)) {
                break;
            }
        }
        Checks.due("outcomes that the runs met", outcomes(), () -> met);
        Checks.finish();
    }

    private static List<Method> methods() {
        List<Method> methods = new ArrayList<>(List.of(DiceForge.class.getDeclaredMethods()));
        methods.removeIf(m -> !Modifier.isPublic(m.getModifiers()));
        methods.sort(Comparator.comparing(Method::getName));
        return methods;
    }

    /** Each method answers and throws all that its clause names, or the runs show too little. */
    private static TreeSet<String> outcomes() {
        TreeSet<String> outcomes = new TreeSet<>(List.of("100 entries", "16 promises", "1 rejected", "3 struck"));
        for (Method method : METHODS) {
            outcomes.add(method.getName() + " answers");
            for (Class<?> thrown : method.getExceptionTypes()) {
                outcomes.add(method.getName() + " throws." + thrown.getSimpleName());
            }
        }
        return outcomes;
    }

    private boolean allSame(int run) {
        // In some runs promises are opened late, so that they reach 100 entries.
        int opening = 5 + run % 4 * 60;
        for (int call = 0; call < CALLS; call++) {
            Method method = nextMethod(opening);
            Object[] arguments = argumentsOf(method.getName());
            String got = answer(forge, method, arguments);
            String want = answer(model, method, arguments);
            calls.append(method.getName()).append(List.of(arguments)).append(" -> ").append(want).append('\n');
            Checks.due("run " + run + ": " + method.getName() + List.of(arguments), want, () -> got);
            if (!got.equals(want)) {
                System.out.print(calls);
                return false;
            }
            note(method.getName(), want);
        }
        return true;
    }

    private Method nextMethod(int opening) {
        String name = METHODS.get(next(METHODS.size())).getName();
        if (name.equals("open") && next(opening) > 5 || name.equals("alter") && next(3) > 0) {
            name = "roll";
        }
        if (seeds == 0 || next(4) == 0) {
            name = seeds < 1 + next(20) ? "promise" : "roll";
        }
        for (Method method : METHODS) {
            if (method.getName().equals(name)) {
                return method;
            }
        }
        throw new AssertionError(name);
    }

    private Object[] argumentsOf(String name) {
        switch (name) {
            case "promise":
                return new Object[] {mostly(next(65536))};
            case "sign", "seedsOf", "open", "isOpened", "wrong", "dispute":
                return new Object[] {mostly(next(Math.max(seeds, 1)))};
            case "setPart":
                return new Object[] {mostly(next(4)), mostly(next(1000))};
            case "roll":
                return new Object[] {mostly(next(Math.max(seeds, 1))), mostly(next(4)), mostly(anyFaces())};
            case "value", "rejected", "sum", "found", "isStruck":
                return new Object[] {mostly(anyEntry())};
            case "alter":
                return new Object[] {mostly(anyEntry()), mostly(1 + next(next(3) == 0 ? 1000 : 3))};
            case "count":
                int faces = anyFaces();
                return new Object[] {mostly(faces), mostly(1 + next(faces))};
            case "uneven":
                return new Object[] {mostly(anyFaces())};
            case "total":
                return new Object[] {mostly(next(4))};
            default:
                return new Object[0];
        }
    }

    private int anyFaces() {
        return next(4) == 0 ? 2 + next(999) : FACES[next(FACES.length)];
    }

    private int anyEntry() {
        return next(Math.max(model.entries(), 1));
    }

    private int mostly(int argument) {
        return next(25) == 0 ? ODD[next(ODD.length)] : argument;
    }

    private int next(int bound) {
        random = random * 6364136223846793005L + 1442695040888963407L;
        return (int) ((random >>> 33) % bound);
    }

    private static String answer(Object called, Method method, Object[] arguments) {
        try {
            Method own = called.getClass().getMethod(method.getName(), method.getParameterTypes());
            return String.valueOf(own.invoke(called, arguments));
        } catch (InvocationTargetException e) {
            return Checks.told(e.getCause());
        } catch (ReflectiveOperationException e) {
            throw new AssertionError(e);
        }
    }

    private void note(String name, String answer) {
        boolean thrown = answer.startsWith("throws.");
        met.add(name + " " + (thrown ? answer : "answers"));
        if (name.equals("promise") && !thrown) {
            seeds = Integer.parseInt(answer) + 1;
            if (seeds == 16) {
                met.add("16 promises");
            }
        }
        if (name.equals("entries") && answer.equals("100")) {
            met.add("100 entries");
        }
        if (name.equals("rejected") && answer.equals("1")) {
            met.add("1 rejected");
        }
        if (name.equals("dispute") && answer.equals("3")) {
            met.add("3 struck");
        }
    }
}
