import java.lang.reflect.Executable;
import java.lang.reflect.Field;
import java.lang.reflect.Method;
import java.lang.reflect.Modifier;
import java.util.ArrayList;
import java.util.List;
import java.util.TreeSet;

/** The public face of the document, and no other member that is not private. */
public final class FaceTest {
    private static final String INDEX = "IndexOutOfBoundsException";
    private static final String ARGUMENT = "IllegalArgumentException";
    private static final String STATE = "IllegalStateException";

    public static void main(String[] args) {
        TreeSet<String> due = new TreeSet<>(List.of(
                "public static final int NONE",
                "public DiceForge()",
                "public int promise(int) " + ARGUMENT + " " + STATE,
                "public int sign(int) " + INDEX,
                "public int seedsOf(int) " + INDEX,
                "public int open(int) " + INDEX + " " + STATE,
                "public boolean isOpened(int) " + INDEX,
                "public int setPart(int, int) " + INDEX + " " + ARGUMENT,
                "public int roll(int, int, int) " + INDEX + " " + ARGUMENT + " " + STATE,
                "public int entries()",
                "public int value(int) " + INDEX,
                "public int rejected(int) " + INDEX,
                "public int sum(int) " + INDEX,
                "public int alter(int, int) " + INDEX + " " + ARGUMENT + " " + STATE,
                "public int broken()",
                "public int found(int) " + INDEX + " " + STATE,
                "public int wrong(int) " + INDEX + " " + STATE,
                "public int dispute(int) " + INDEX + " " + STATE,
                "public boolean isStruck(int) " + INDEX,
                "public int count(int, int) " + ARGUMENT,
                "public long uneven(int) " + ARGUMENT,
                "public int total(int) " + INDEX));
        Checks.due("the class", "public final", () -> Modifier.toString(DiceForge.class.getModifiers()));
        Checks.due("the class's parent", Object.class, DiceForge.class::getSuperclass);
        Checks.due("the class's interfaces", 0, () -> DiceForge.class.getInterfaces().length);
        Checks.due("the face", due, FaceTest::face);
        Checks.due("private methods with public names", List.of(), FaceTest::namesakes);
        Checks.finish();
    }

    private static TreeSet<String> face() {
        TreeSet<String> face = new TreeSet<>();
        for (Field field : DiceForge.class.getDeclaredFields()) {
            if (!Modifier.isPrivate(field.getModifiers())) {
                face.add(Modifier.toString(field.getModifiers()) + " " + field.getType() + " " + field.getName());
            }
        }
        for (Executable made : DiceForge.class.getDeclaredConstructors()) {
            add(face, made, "DiceForge");
        }
        for (Method method : DiceForge.class.getDeclaredMethods()) {
            add(face, method, method.getReturnType() + " " + method.getName());
        }
        return face;
    }

    private static void add(TreeSet<String> face, Executable called, String name) {
        if (Modifier.isPrivate(called.getModifiers())) {
            return;
        }
        List<String> types = new ArrayList<>();
        for (Class<?> type : called.getParameterTypes()) {
            types.add(type.getSimpleName());
        }
        StringBuilder thrown = new StringBuilder();
        for (Class<?> type : called.getExceptionTypes()) {
            thrown.append(' ').append(type.getSimpleName());
        }
        face.add(Modifier.toString(called.getModifiers()) + " " + name + "(" + String.join(", ", types) + ")" + thrown);
    }

    private static List<String> namesakes() {
        TreeSet<String> names = new TreeSet<>();
        for (Method method : DiceForge.class.getMethods()) {
            names.add(method.getName());
        }
        List<String> namesakes = new ArrayList<>();
        for (Class<?> inside : DiceForge.class.getNestMembers()) {
            for (Method method : inside.getDeclaredMethods()) {
                if (!Modifier.isPublic(method.getModifiers()) && names.contains(method.getName())) {
                    namesakes.add(inside.getSimpleName() + "." + method.getName());
                }
            }
        }
        return namesakes;
    }
}
