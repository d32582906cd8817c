import java.io.IOException;
import java.lang.reflect.InvocationTargetException;
import java.lang.reflect.Method;
import java.util.HashSet;
import java.util.List;
import java.util.Set;

/** Runs each case of src/test/edges on a new object. */
public final class EdgesTest {
    private static final int MAX_CALLS = 512;
    /** More than Checks.stateOf makes. */
    private static final int CALLS_OF_STATE = 200;

    public static void main(String[] args) throws IOException {
        Edges edges = Edges.read();
        Checks.due("lines that are no calls", List.of(), () -> edges.faults);
        Set<String> names = new HashSet<>();
        for (Edges.Case edge : edges.cases) {
            Checks.due("a name of its own for: " + edge.name, true, () -> names.add(edge.name));
            Checks.due("calls of: " + edge.name, true, () -> !edge.calls.isEmpty() && edge.calls.size() <= MAX_CALLS);
            run(edge);
        }
        System.out.println(edges.cases.size() + " cases");
        Checks.finish();
    }

    private static void run(Edges.Case edge) {
        DiceForge x = new DiceForge();
        for (Edges.Call call : edge.calls) {
            String got = answer(x, call);
            String due = call.due != null ? call.due : got.contains("throws.") ? "an answer" : got;
            Checks.due(edge.name + ": " + call, due, () -> got);
        }
        if (edge.calls.size() + CALLS_OF_STATE <= MAX_CALLS) {
            sameWithoutThrowing(edge, x);
        }
    }

    /** A call that throws changes nothing: without those of the case the object tells the same. */
    private static void sameWithoutThrowing(Edges.Case edge, DiceForge x) {
        DiceForge twin = new DiceForge();
        int thrown = 0;
        for (Edges.Call call : edge.calls) {
            if (call.throwing()) {
                thrown++;
            } else {
                answer(twin, call);
            }
        }
        if (thrown > 0) {
            Checks.due(edge.name + ": the state", Checks.stateOf(twin), () -> Checks.stateOf(x));
        }
    }

    private static String answer(DiceForge x, Edges.Call call) {
        Class<?>[] types = new Class<?>[call.arguments.length];
        Object[] arguments = new Object[call.arguments.length];
        for (int i = 0; i < types.length; i++) {
            types[i] = int.class;
            arguments[i] = call.arguments[i];
        }
        try {
            Method method = DiceForge.class.getMethod(call.name, types);
            return String.valueOf(method.invoke(x, arguments));
        } catch (InvocationTargetException e) {
            return Checks.told(e.getCause());
        } catch (ReflectiveOperationException e) {
            return "no such call";
        }
    }
}
