import java.lang.reflect.Constructor;
import java.lang.reflect.Field;
import java.lang.reflect.Method;
import java.lang.reflect.Modifier;
import java.util.Set;
import java.util.TreeSet;

/** The class has the document's face and no member beside it that is not private. */
public final class FaceTest {
    private static final String FACE = "[boolean give(int,int), boolean poke(int,int), boolean tagged(int),"
        + " boolean wake(int), int cause(), int peek(int), int register(int,int), int run(int), int state(),"
        + " int steps(), int traps(), long base(int), long top(int)]";

    public static void main(String[] args) {
        Tally tally = new Tally("FaceTest");
        Class<?> core = CapabilityCore.class;
        tally.due("modifiers", core.getModifiers(), Modifier.PUBLIC | Modifier.FINAL);
        tally.due("package", core.getPackageName(), "");
        tally.due("methods", methods(core).toString(), FACE);
        tally.due("fields", fields(core).toString(), "[NONE]");
        tally.due("NONE", CapabilityCore.NONE, -1);
        Constructor<?>[] constructors = core.getDeclaredConstructors();
        tally.due("constructors", constructors.length, 1);
        tally.due("constructor is public", Modifier.isPublic(constructors[0].getModifiers()), true);
        tally.due("constructor's parameters", constructors[0].getParameterCount(), 0);
        tally.end();
    }

    private static Set<String> methods(Class<?> type) {
        Set<String> names = new TreeSet<>();
        for (Method method : type.getDeclaredMethods()) {
            if (!Modifier.isPrivate(method.getModifiers())) {
                StringBuilder text = new StringBuilder();
                text.append(method.getReturnType().getName()).append(' ').append(method.getName()).append('(');
                String between = "";
                for (Class<?> parameter : method.getParameterTypes()) {
                    text.append(between).append(parameter.getName());
                    between = ",";
                }
                names.add(text.append(')').toString());
            }
        }
        return names;
    }

    private static Set<String> fields(Class<?> type) {
        Set<String> names = new TreeSet<>();
        for (Field field : type.getDeclaredFields()) {
            if (!Modifier.isPrivate(field.getModifiers())) {
                names.add(field.getName());
            }
        }
        return names;
    }
}
