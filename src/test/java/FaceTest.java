import java.lang.reflect.Constructor;
import java.lang.reflect.Field;
import java.lang.reflect.Method;
import java.lang.reflect.Modifier;
import java.util.Arrays;
import java.util.Set;
import java.util.TreeSet;

/** The class shows the members of the document, and no others. */
public final class FaceTest {
    private static final String[] FACE = {
        "int addPoint(int,int,int,boolean)", "int points()", "int place(int)", "int spare()",
        "int put(int,int)", "int send(int)", "int sent()", "int onLine()", "int bit(int)",
        "int flip(int)", "int cut(int,int)", "int receive(int)", "int state()", "int taken()",
        "int frames()", "int lost()", "int repeats()", "int number()", "int value(int)",
        "int time(int)", "int samples(int)", "int missing(int)", "void derive(int,int,int,int)",
        "int derivedValue(int)", "int derivedTime(int)", "int matches(int)", "int bestOffset()",
    };

    public static void main(String[] args) {
        Class<?> type = Commutator.class;
        Check.holds("the class is public and final",
                Modifier.isPublic(type.getModifiers()) && Modifier.isFinal(type.getModifiers()));
        Set<String> shown = new TreeSet<>();
        Set<String> publicNames = new TreeSet<>();
        for (Method m : type.getDeclaredMethods()) {
            if (!Modifier.isPrivate(m.getModifiers()) && !m.isSynthetic()) {
                shown.add(signature(m));
                publicNames.add(m.getName());
            }
        }
        Check.same("the methods", new TreeSet<>(Arrays.asList(FACE)).toString(), shown.toString());
        checkConstructors(type);
        for (Field f : type.getDeclaredFields()) {
            Check.holds("field " + f.getName() + " is private", Modifier.isPrivate(f.getModifiers()));
        }
        checkHiddenNames(type, publicNames);
        for (Class<?> inner : type.getDeclaredClasses()) {
            checkHiddenNames(inner, publicNames);
        }
        Check.end("FaceTest");
    }

    private static String signature(Method m) {
        StringBuilder text = new StringBuilder(m.getReturnType().getName() + " " + m.getName() + "(");
        for (Class<?> c : m.getParameterTypes()) {
            text.append(text.charAt(text.length() - 1) == '(' ? "" : ",").append(c.getName());
        }
        return text.append(')').toString();
    }

    private static void checkConstructors(Class<?> type) {
        Constructor<?>[] all = type.getDeclaredConstructors();
        Check.holds("one public constructor without parameters", all.length == 1
                && Modifier.isPublic(all[0].getModifiers()) && all[0].getParameterCount() == 0);
    }

    private static void checkHiddenNames(Class<?> type, Set<String> publicNames) {
        for (Method m : type.getDeclaredMethods()) {
            boolean hidden = type != Commutator.class || Modifier.isPrivate(m.getModifiers());
            if (hidden && !m.isSynthetic()) {
                Check.holds(type.getSimpleName() + "." + m.getName() + " bears a name of its own",
                        !publicNames.contains(m.getName()));
            }
        }
    }
}
