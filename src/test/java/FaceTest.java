import java.lang.reflect.Constructor;
import java.lang.reflect.Field;
import java.lang.reflect.Method;
import java.lang.reflect.Modifier;
import java.util.Set;
import java.util.TreeSet;

/** The class has the document's face and nothing else that others can see. */
public final class FaceTest {
    public static void main(String[] args) {
        Check.due("the class is public and final",
                ScanRows.class.getModifiers() & (Modifier.PUBLIC | Modifier.FINAL),
                Modifier.PUBLIC | Modifier.FINAL);
        Check.due("NONE", ScanRows.NONE, -1);

        Set<String> want = Set.of(
                "int latch(int,long,long)", "int make(int)", "int at(int,int)",
                "boolean lockUp(int,int)", "long travel()", "int improve(int)",
                "int rule(int,int)", "boolean set(int,boolean)", "void load(int,int)",
                "int value(int)", "int shift(int)", "int port(int)", "void pin(int,int)",
                "int tick(int,int)", "int state()", "int go(int)", "int boundary(int)",
                "int count(int)", "int NONE", "ScanRows(int)");
        Check.due("the face is the document's: " + visible(), visible().equals(want), true);
        Check.end();
    }

    private static Set<String> visible() {
        Set<String> seen = new TreeSet<>();
        for (Method m : ScanRows.class.getDeclaredMethods()) {
            if (!Modifier.isPrivate(m.getModifiers())) {
                seen.add(m.getReturnType() + " " + m.getName() + parameters(m.getParameterTypes()));
            }
        }
        for (Constructor<?> c : ScanRows.class.getDeclaredConstructors()) {
            if (!Modifier.isPrivate(c.getModifiers())) {
                seen.add(c.getName() + parameters(c.getParameterTypes()));
            }
        }
        for (Field f : ScanRows.class.getDeclaredFields()) {
            if (!Modifier.isPrivate(f.getModifiers())) {
                seen.add(f.getType() + " " + f.getName());
            }
        }
        return seen;
    }

    private static String parameters(Class<?>[] types) {
        StringBuilder text = new StringBuilder("(");
        for (int i = 0; i < types.length; i++) {
            text.append(i == 0 ? "" : ",").append(types[i]);
        }
        return text.append(")").toString();
    }
}
