import java.lang.reflect.Constructor;
import java.lang.reflect.Field;
import java.lang.reflect.Method;
import java.lang.reflect.Modifier;
import java.util.Arrays;
import java.util.Set;
import java.util.TreeSet;

/** The face: what the document names, and nothing else that can be seen from outside. */
public final class FaceTest {
    public static void main(String[] args) {
        Due due = new Due();
        due.is("NONE", GroupLog.NONE, -1);
        due.is("OFF", GroupLog.OFF, -2);
        due.is("final", Modifier.isFinal(GroupLog.class.getModifiers()), true);

        Set<String> seen = new TreeSet<>();
        Set<String> hidden = new TreeSet<>();
        for (Method m : GroupLog.class.getDeclaredMethods()) {
            if (Modifier.isPrivate(m.getModifiers())) {
                hidden.add(m.getName());
            } else {
                seen.add(m.getReturnType() + " " + m.getName() + Arrays.toString(m.getParameterTypes()));
            }
        }
        for (Field f : GroupLog.class.getDeclaredFields()) {
            if (!Modifier.isPrivate(f.getModifiers())) {
                seen.add(f.getType() + " " + f.getName());
            }
        }
        for (Constructor<?> c : GroupLog.class.getDeclaredConstructors()) {
            seen.add("new" + Arrays.toString(c.getParameterTypes()));
        }
        Set<String> want = new TreeSet<>(Arrays.asList("new[]", "int NONE", "int OFF",
            "boolean delay[int]", "boolean feed[int]", "int append[]", "int flush[]", "int tick[int]",
            "int checkpoint[int]", "boolean cut[]", "boolean arm[int, int]", "int start[]", "int first[]",
            "int safe[]", "int size[int]", "int at[int, int]", "int disk[int, int]",
            "boolean poke[int, int, int]", "boolean torn[int]", "int count[int]"));
        due.is("face " + seen, seen.equals(want), true);
        for (String w : want) {
            for (String h : hidden) {
                due.is("private " + h, w.contains(" " + h + "["), false);
            }
        }
        due.end();
    }
}
