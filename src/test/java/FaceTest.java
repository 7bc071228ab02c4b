import java.lang.reflect.Constructor;
import java.lang.reflect.Field;
import java.lang.reflect.Method;
import java.lang.reflect.Modifier;
import java.util.ArrayList;
import java.util.Arrays;
import java.util.List;
import java.util.TreeSet;

/** The public face is the document's, and nothing else of the class can be seen from outside. */
public final class FaceTest {
    public static void main(String[] args) {
        TreeSet<String> due = new TreeSet<>(Arrays.asList(
                "int cls(int, boolean)", "int begin(int, int, int)", "int argument(int)", "int add(int, int, int)",
                "int change(int, int, int, int)", "int handler(int, int, int, int)", "int verify()", "int place()",
                "int state(int, int)", "int join(int, int)", "int goes(int, int)", "int count(int)"));
        TreeSet<String> seen = new TreeSet<>();
        List<String> hidden = new ArrayList<>();
        for (Method m : FlowGate.class.getDeclaredMethods()) {
            if (!Modifier.isPrivate(m.getModifiers())) seen.add(tell(m));
            else hidden.add(m.getName());
        }
        Script s = new Script("face");
        s.due("the methods as due: " + seen, seen.equals(due) ? 1 : 0, 1);
        for (String d : due) {
            String name = d.substring(4, d.indexOf('('));
            s.due("private " + name, hidden.contains(name) ? 1 : 0, 0);
        }
        TreeSet<String> fields = new TreeSet<>();
        for (Field f : FlowGate.class.getDeclaredFields()) {
            if (!Modifier.isPrivate(f.getModifiers())) fields.add(f.getName());
        }
        s.due("the fields as due: " + fields, fields.equals(new TreeSet<>(Arrays.asList("FULL", "REFUSED"))) ? 1 : 0, 1);
        Constructor<?>[] constructors = FlowGate.class.getDeclaredConstructors();
        s.due("constructors", constructors.length, 1);
        s.due("its parameters", constructors[0].getParameterCount(), 0);
        s.due("it is public", Modifier.isPublic(constructors[0].getModifiers()) ? 1 : 0, 1);
        int modifiers = FlowGate.class.getModifiers();
        s.due("public final", Modifier.isPublic(modifiers) && Modifier.isFinal(modifiers) ? 1 : 0, 1);
        s.due("REFUSED", FlowGate.REFUSED, -1);
        s.due("FULL", FlowGate.FULL, -2);
        example();
        Script.end();
    }

    /** README.md's own example. */
    private static void example() {
        Script s = new Script("README.md");
        s.due("begin", s.gate.begin(1, 1, 1), 1).due("argument", s.gate.argument(1), 1);
        s.due("add", s.gate.add(2, 0, 0), 0).due("add", s.gate.add(18, 0, 0), 1);
        s.due("verify()", s.gate.verify(), 0).due("place()", s.gate.place(), -1).state(1, 16, 1);
    }

    private static String tell(Method m) {
        List<String> types = new ArrayList<>();
        for (Class<?> c : m.getParameterTypes()) types.add(c.getName());
        return m.getReturnType().getName() + " " + m.getName() + "(" + String.join(", ", types) + ")";
    }
}
