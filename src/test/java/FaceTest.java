import java.lang.reflect.Constructor;
import java.lang.reflect.Executable;
import java.lang.reflect.Field;
import java.lang.reflect.Method;
import java.lang.reflect.Modifier;
import java.util.ArrayList;
import java.util.Arrays;
import java.util.List;
import java.util.TreeSet;

/** The class has the document's face and no member beside it that others can see. */
public final class FaceTest {
    private static final List<String> DUE = List.of(
        "public static final int NONE",
        "public static final int OPEN",
        "public static final int HALTS",
        "public static final int CYCLES",
        "public static final int DRIFTS",
        "public MachineTree(int)",
        "public int set(int,int,int) IllegalArgumentException",
        "public int run(int) IllegalArgumentException",
        "public int figure(int) IllegalArgumentException IllegalStateException",
        "public int cell(int) IllegalStateException",
        "public float share() IllegalStateException",
        "public int grow(int) IllegalArgumentException",
        "public int taken(int) IllegalArgumentException",
        "public int champion(int,int) IllegalArgumentException",
        "public float mean() IllegalStateException");

    public static void main(String[] args) {
        Check check = new Check();
        check.same("the face", new TreeSet<>(DUE), seen());
        check.same("the class's modifiers", Modifier.PUBLIC | Modifier.FINAL, MachineTree.class.getModifiers());
        check.same("the class above", Object.class, MachineTree.class.getSuperclass());
        check.same("NONE", -1, MachineTree.NONE);
        check.same("OPEN", 0, MachineTree.OPEN);
        check.same("HALTS", 1, MachineTree.HALTS);
        check.same("CYCLES", 2, MachineTree.CYCLES);
        check.same("DRIFTS", 3, MachineTree.DRIFTS);
        for (Class<?> inside : MachineTree.class.getDeclaredClasses()) {
            int modifiers = inside.getModifiers();
            check.same(inside.getName() + " is static", true, Modifier.isStatic(modifiers));
            check.same(inside.getName() + " is hidden", false,
                Modifier.isPublic(modifiers) || Modifier.isProtected(modifiers));
        }
        check.end();
    }

    private static TreeSet<String> seen() {
        List<String> members = new ArrayList<>();
        for (Field field : MachineTree.class.getDeclaredFields()) {
            if (!Modifier.isPrivate(field.getModifiers())) {
                members.add(Modifier.toString(field.getModifiers()) + " " + field.getType() + " " + field.getName());
            }
        }
        for (Constructor<?> made : MachineTree.class.getDeclaredConstructors()) {
            if (!Modifier.isPrivate(made.getModifiers())) {
                members.add(Modifier.toString(made.getModifiers()) + " " + rest(made));
            }
        }
        for (Method method : MachineTree.class.getDeclaredMethods()) {
            if (!Modifier.isPrivate(method.getModifiers())) {
                members.add(Modifier.toString(method.getModifiers()) + " " + method.getReturnType() + " " + rest(method));
            }
        }
        return new TreeSet<>(members);
    }

    private static String rest(Executable call) {
        String[] types = Arrays.stream(call.getParameterTypes()).map(Class::getSimpleName).toArray(String[]::new);
        StringBuilder text = new StringBuilder(call.getName() + "(" + String.join(",", types) + ")");
        Arrays.stream(call.getExceptionTypes()).map(Class::getSimpleName).sorted()
            .forEach(name -> text.append(' ').append(name));
        return text.toString();
    }
}
