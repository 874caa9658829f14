import java.lang.reflect.Constructor;
import java.lang.reflect.Field;
import java.lang.reflect.Method;
import java.lang.reflect.Modifier;
import java.util.Set;
import java.util.TreeSet;

/** The class has the document's face, with what each method names to throw, and nothing else. */
public final class FaceTest {
    private static final String NO_INDEX = " throws IndexOutOfBoundsException";
    private static final String NO_ARGUMENT = " throws IllegalArgumentException";
    private static final String FULL_OR_NO_ARGUMENT =
            " throws UnsupportedOperationException,IllegalArgumentException";

    public static void main(String[] args) {
        theFaceIsTheDocuments();
        noneIsMinusOne();
        otherClassesAreHiddenAndStatic();
        noHiddenMethodBearsAPublicName();
        Check.end();
    }

    private static void theFaceIsTheDocuments() {
        Check.says("The public face");
        Set<String> want = new TreeSet<>(Set.of(
                "public static final int NONE",
                "public ScanRows(int)",
                "public int latch(int,long,long)" + FULL_OR_NO_ARGUMENT,
                "public int make(int)" + NO_ARGUMENT,
                "public int at(int,int)" + NO_INDEX,
                "public boolean lockUp(int,int)" + NO_INDEX,
                "public long travel()",
                "public int improve(int)" + NO_ARGUMENT,
                "public int rule(int,int)" + NO_INDEX,
                "public boolean set(int,boolean)" + NO_INDEX,
                "public void load(int,int)" + NO_INDEX,
                "public int value(int)" + NO_INDEX,
                "public int shift(int)",
                "public int port(int)" + FULL_OR_NO_ARGUMENT,
                "public void pin(int,int)" + NO_INDEX,
                "public int tick(int,int)" + NO_ARGUMENT,
                "public int state()",
                "public int go(int)" + NO_ARGUMENT,
                "public int boundary(int)" + NO_INDEX,
                "public int count(int)" + NO_INDEX));
        Check.due("what others see", String.join("\n", visible()), String.join("\n", want));
        Check.due("the class's modifiers", Modifier.toString(ScanRows.class.getModifiers()), "public final");
    }

    private static void noneIsMinusOne() {
        Check.says("public static final int NONE = -1;");
        Check.due("NONE", ScanRows.NONE, -1);
    }

    private static void otherClassesAreHiddenAndStatic() {
        Check.says("classes inside it, which are private or package-visible and static");
        for (Class<?> inside : ScanRows.class.getDeclaredClasses()) {
            int modifiers = inside.getModifiers();
            Check.due(inside.getName() + " is static", Modifier.isStatic(modifiers), true);
            Check.due(inside.getName() + " is seen outside",
                    Modifier.isPublic(modifiers) || Modifier.isProtected(modifiers), false);
        }
    }

    private static void noHiddenMethodBearsAPublicName() {
        Check.says("No private method bears the name of a public one.");
        Set<String> names = new TreeSet<>();
        for (Method m : ScanRows.class.getMethods()) {
            names.add(m.getName());
        }
        for (Method m : ScanRows.class.getDeclaredMethods()) {
            lookForPublicName(names, m);
        }
        for (Class<?> inside : ScanRows.class.getDeclaredClasses()) {
            for (Method m : inside.getDeclaredMethods()) {
                lookForPublicName(names, m);
            }
        }
    }

    private static void lookForPublicName(Set<String> names, Method m) {
        if (!Modifier.isPublic(m.getModifiers())) {
            Check.due(m.getName() + " is a public name too", names.contains(m.getName()), false);
        }
    }

    private static Set<String> visible() {
        Set<String> seen = new TreeSet<>();
        for (Method m : ScanRows.class.getDeclaredMethods()) {
            if (!Modifier.isPrivate(m.getModifiers())) {
                seen.add(Modifier.toString(m.getModifiers()) + " " + m.getReturnType() + " " + m.getName()
                        + "(" + joined(m.getParameterTypes()) + ")" + thrown(m.getExceptionTypes()));
            }
        }
        for (Constructor<?> c : ScanRows.class.getDeclaredConstructors()) {
            if (!Modifier.isPrivate(c.getModifiers())) {
                seen.add(Modifier.toString(c.getModifiers()) + " " + c.getName()
                        + "(" + joined(c.getParameterTypes()) + ")" + thrown(c.getExceptionTypes()));
            }
        }
        for (Field f : ScanRows.class.getDeclaredFields()) {
            if (!Modifier.isPrivate(f.getModifiers())) {
                seen.add(Modifier.toString(f.getModifiers()) + " " + f.getType() + " " + f.getName());
            }
        }
        return seen;
    }

    private static String thrown(Class<?>[] types) {
        return types.length == 0 ? "" : " throws " + joined(types);
    }

    private static String joined(Class<?>[] types) {
        StringBuilder text = new StringBuilder();
        for (Class<?> type : types) {
            text.append(text.length() == 0 ? "" : ",").append(type.getSimpleName());
        }
        return text.toString();
    }
}
