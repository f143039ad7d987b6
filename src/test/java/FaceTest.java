import java.lang.reflect.Constructor;
import java.lang.reflect.Field;
import java.lang.reflect.Method;
import java.lang.reflect.Modifier;
import java.util.TreeSet;

/** The public face is the document's, and there is nothing visible beside it. */
public final class FaceTest {
    private static final String[] METHODS = {
        "boolean accept(int)", "boolean wire(int,int)", "boolean write(int,int)", "int cause()",
        "int count(int)", "int flow()", "int left()", "int lost()", "int read(int)", "int sent(int)",
        "int service()", "int take()", "int tick(int)", "int total()", "void lines(int)", "void start()",
    };

    public static void main(String[] args) {
        methods();
        fields();
        constructors();
        nestedClasses();
        Check.finish();
    }

    private static void methods() {
        TreeSet<String> wanted = new TreeSet<>(java.util.Arrays.asList(METHODS));
        TreeSet<String> found = new TreeSet<>();
        for (Method m : FlowedLine.class.getDeclaredMethods()) {
            if (m.isSynthetic() || Modifier.isPrivate(m.getModifiers())) {
                continue;
            }
            Check.due(m.getName() + " is public", Modifier.isPublic(m.getModifiers()), true);
            Check.due(m.getName() + " is of the object", Modifier.isStatic(m.getModifiers()), false);
            StringBuilder text = new StringBuilder(m.getReturnType().getName() + " " + m.getName() + "(");
            for (int k = 0; k < m.getParameterCount(); k++) {
                text.append(k > 0 ? "," : "").append(m.getParameterTypes()[k].getName());
            }
            found.add(text + ")");
        }
        Check.due("methods", found.toString(), wanted.toString());
    }

    private static void fields() {
        for (Field f : FlowedLine.class.getDeclaredFields()) {
            boolean isConstant = f.getName().equals("NONE");
            Check.due(f.getName() + " is public", Modifier.isPublic(f.getModifiers()), isConstant);
            Check.due(f.getName() + " is private", Modifier.isPrivate(f.getModifiers()), !isConstant);
        }
        Check.due("NONE", FlowedLine.NONE, -1);
    }

    private static void constructors() {
        Constructor<?>[] all = FlowedLine.class.getDeclaredConstructors();
        Check.due("constructors", all.length, 1);
        Check.due("the constructor is public", Modifier.isPublic(all[0].getModifiers()), true);
        Check.due("its parameters", all[0].getParameterCount(), 0);
        Check.due("the class is final", Modifier.isFinal(FlowedLine.class.getModifiers()), true);
        Check.due("the class is public", Modifier.isPublic(FlowedLine.class.getModifiers()), true);
    }

    private static void nestedClasses() {
        for (Class<?> c : FlowedLine.class.getDeclaredClasses()) {
            int how = c.getModifiers();
            Check.due(c.getName() + " is hidden", Modifier.isPublic(how) || Modifier.isProtected(how), false);
            Check.due(c.getName() + " is static", Modifier.isStatic(how), true);
        }
    }
}
