import java.lang.reflect.Constructor;
import java.lang.reflect.Field;
import java.lang.reflect.Method;
import java.lang.reflect.Modifier;
import java.util.TreeSet;

/** The public face is that of the document, and nothing else can be seen from outside. */
public final class FaceTest {
    public static void main(String[] args) {
        Bench.due("modifiers", Modifier.toString(ModuleForge.class.getModifiers()), "public final");
        Bench.due("NONE", ModuleForge.NONE, -2);
        TreeSet<String> seen = new TreeSet<>();
        for (Method m : ModuleForge.class.getDeclaredMethods()) {
            if (!Modifier.isPrivate(m.getModifiers())) {
                seen.add(m.getReturnType() + " " + m.getName() + java.util.Arrays.toString(m.getParameterTypes()));
            }
        }
        for (Field f : ModuleForge.class.getDeclaredFields()) {
            if (!Modifier.isPrivate(f.getModifiers())) {
                seen.add(f.getType() + " " + f.getName());
            }
        }
        for (Constructor<?> c : ModuleForge.class.getDeclaredConstructors()) {
            seen.add("new" + java.util.Arrays.toString(c.getParameterTypes()));
        }
        Bench.due("the face", seen.toString(), "[boolean matches[long, int], int NONE, int clear[], int count[int], "
                + "int elaborate[], int look[int, long], int result[long], int run[int], int text[long], int told[int], "
                + "int where[], new[]]");
        Bench.end();
    }
}
