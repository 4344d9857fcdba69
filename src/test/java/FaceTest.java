import java.lang.reflect.Constructor;
import java.lang.reflect.Field;
import java.lang.reflect.Member;
import java.lang.reflect.Method;
import java.lang.reflect.Modifier;
import java.util.Arrays;
import java.util.TreeSet;

/** Promise 1 and the public face: just the constants, constructor and methods of the document. */
public final class FaceTest {
    private static final String[] METHODS = {
        "int feed(int, long)", "int pattern(int)", "int place()", "int forget(int)", "int node(int, int, int)",
        "int part(int, int, int, boolean)", "int print(int)", "int begins(int, int)", "int risky(int)", "int dead(int, int)",
        "int put(int, int, long)", "int drop(int)", "char sign(int, int) NullPointerException ArrayIndexOutOfBoundsException",
        "int find(int, int, int, int, int)", "int goOn(int)", "int span(int, boolean)", "int named(int, int)",
        "int whole(int, int, int)", "int all(int, int, int)", "int replace(int, int, int)", "int first(int, int, int, int)",
        "int prefix(int, int, int)", "int steps()", "int table(int)", "int least(int)", "int compare(int, int)",
        "int parting(int, int)", "int out(int) ArrayIndexOutOfBoundsException", "int finding()", "int told(int)", "int clear()",
    };
    private static final String[] CONSTANTS = {
        "NONE -1", "UNKNOWN -2", "NO_SUBJECT -3", "OUTSIDE -4", "STATE -5", "KIND -6", "LARGE -7", "SPENT -8", "ROOM -9", "MORE 2",
    };

    public static void main(String[] args) throws IllegalAccessException {
        hasTheFace();
        isNewAtFirst();
        Kit.end("FaceTest");
    }

    private static void hasTheFace() throws IllegalAccessException {
        Class<?> face = PatternWorkshop.class;
        Kit.due("public and final", Modifier.toString(face.getModifiers()), "public final");
        TreeSet<String> methods = new TreeSet<>();
        for (Method m : face.getDeclaredMethods()) {
            if (!Modifier.isPrivate(m.getModifiers())) {
                methods.add(told(m));
            }
        }
        Kit.due("the methods", methods, new TreeSet<>(Arrays.asList(METHODS)));
        TreeSet<String> constants = new TreeSet<>();
        for (Field f : face.getDeclaredFields()) {
            if (!Modifier.isPrivate(f.getModifiers())) {
                constants.add(f.getName() + " " + f.getInt(null));
                Kit.due(f.getName(), Modifier.toString(f.getModifiers()), "public static final");
            }
        }
        Kit.due("the constants", constants, new TreeSet<>(Arrays.asList(CONSTANTS)));
        Constructor<?>[] constructors = face.getDeclaredConstructors();
        Kit.due("the constructor", constructors.length + " " + constructors[0], "1 public PatternWorkshop()");
        for (Class<?> inside : face.getDeclaredClasses()) {
            Kit.due(inside.getName(), Modifier.isStatic(inside.getModifiers()), true);
        }
        for (Member m : face.getDeclaredMethods()) {
            Kit.due("a private " + m.getName(), Modifier.isPrivate(m.getModifiers()) && isOfFace(m.getName()), false);
        }
    }

    private static boolean isOfFace(String name) {
        return Arrays.stream(METHODS).anyMatch(m -> m.contains(" " + name + "("));
    }

    private static String told(Method m) {
        StringBuilder s = new StringBuilder(m.getReturnType() + " " + m.getName() + "(");
        for (Class<?> type : m.getParameterTypes()) {
            s.append(s.toString().endsWith("(") ? "" : ", ").append(type);
        }
        s.append(")");
        for (Class<?> type : m.getExceptionTypes()) {
            s.append(" ").append(type.getSimpleName());
        }
        return s.toString();
    }

    private static void isNewAtFirst() {
        PatternWorkshop x = new PatternWorkshop();
        for (int what = 0; what < 7; what++) {
            Kit.due("told(" + what + ")", x.told(what), 0);
        }
        Kit.due("place()", x.place(), PatternWorkshop.NONE);
        Kit.due("steps()", x.steps(), 0);
        Kit.due("finding()", x.finding(), 0);
        Kit.due("goOn(1)", x.goOn(1), PatternWorkshop.STATE);
        Kit.due("span(0, false)", x.span(0, false), PatternWorkshop.UNKNOWN);
        for (int slot = 0; slot < 6; slot++) {
            Kit.due("print", x.print(slot), PatternWorkshop.UNKNOWN);
        }
        for (int subject = 0; subject < 4; subject++) {
            Kit.due("drop", x.drop(subject), PatternWorkshop.NO_SUBJECT);
        }
    }
}
