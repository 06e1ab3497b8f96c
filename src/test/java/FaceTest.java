import java.lang.reflect.Constructor;
import java.lang.reflect.Field;
import java.lang.reflect.Method;
import java.lang.reflect.Modifier;
import java.util.Arrays;
import java.util.TreeSet;

/** The public face is the document's, and there is no other. */
public final class FaceTest {
    private static final String[] FACE = {
        "int feed(int, int, int, int, int)", "int end(int)", "int load(int, int)", "void reset()",
        "int run(int)", "int state(int)", "int peek(int)", "boolean set(int, int)", "int picture(int)",
        "int vram(int)", "int grom(int)", "void frame()", "boolean interrupt(int)",
        "boolean key(int, int, boolean)", "int out(int)", "int in(int)", "int pixel(int, int)"};

    public static void main(String[] args) {
        TreeSet<String> found = new TreeSet<>();
        TreeSet<String> names = new TreeSet<>();
        for (Method method : WorkspaceBox.class.getDeclaredMethods()) {
            if (Modifier.isPublic(method.getModifiers())) {
                found.add(told(method));
                names.add(method.getName());
            }
        }
        Bench.due("the face " + found, found.equals(new TreeSet<>(Arrays.asList(FACE))), true);
        for (Method method : WorkspaceBox.class.getDeclaredMethods()) {
            if (!Modifier.isPublic(method.getModifiers())) {
                Bench.due(method + " is private", Modifier.isPrivate(method.getModifiers()), true);
                Bench.due(method + " bears a name of its own", names.contains(method.getName()), false);
            }
        }
        for (Field field : WorkspaceBox.class.getDeclaredFields()) {
            boolean none = field.getName().equals("NONE");
            Bench.due(field + " is private", Modifier.isPrivate(field.getModifiers()), !none);
        }
        Constructor<?>[] constructors = WorkspaceBox.class.getDeclaredConstructors();
        Bench.due("one constructor", constructors.length, 1);
        Bench.due("it is public", Modifier.isPublic(constructors[0].getModifiers()), true);
        Bench.due("the class is final", Modifier.isFinal(WorkspaceBox.class.getModifiers()), true);
        Bench.finish();
    }

    private static String told(Method method) {
        StringBuilder text = new StringBuilder();
        text.append(method.getReturnType()).append(' ').append(method.getName()).append('(');
        Class<?>[] types = method.getParameterTypes();
        for (int i = 0; i < types.length; i++) {
            text.append(i == 0 ? "" : ", ").append(types[i]);
        }
        return text.append(')').toString();
    }
}
