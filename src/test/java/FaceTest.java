import java.lang.reflect.Constructor;
import java.lang.reflect.Field;
import java.lang.reflect.Method;
import java.lang.reflect.Modifier;
import java.util.Arrays;
import java.util.Set;
import java.util.TreeSet;

/** The class shows the members of the document, with the exceptions that it names, and no others. */
public final class FaceTest {
    private static final String[] FACE = {
        "int addPoint(int,int,int,boolean) throws IllegalArgumentException,IllegalStateException",
        "int points()",
        "int place(int) throws IndexOutOfBoundsException",
        "int spare()",
        "int put(int,int) throws IndexOutOfBoundsException,IllegalArgumentException",
        "int send(int) throws IllegalArgumentException,IllegalStateException",
        "int sent()",
        "int onLine()",
        "int bit(int) throws IndexOutOfBoundsException",
        "int flip(int) throws IndexOutOfBoundsException",
        "int cut(int,int) throws IllegalArgumentException,IndexOutOfBoundsException",
        "int receive(int) throws IllegalArgumentException",
        "int state()",
        "int taken()",
        "int frames()",
        "int lost()",
        "int repeats()",
        "int number() throws NoSuchElementException",
        "int value(int) throws IndexOutOfBoundsException,NoSuchElementException",
        "int time(int) throws IndexOutOfBoundsException,NoSuchElementException",
        "int samples(int) throws IndexOutOfBoundsException",
        "int missing(int) throws IndexOutOfBoundsException",
        "void derive(int,int,int,int) throws IllegalArgumentException,IllegalStateException",
        "int derivedValue(int) throws IllegalArgumentException,NoSuchElementException",
        "int derivedTime(int) throws IllegalArgumentException,NoSuchElementException",
        "int matches(int) throws IllegalArgumentException",
        "int bestOffset()",
    };

    public static void main(String[] args) {
        Class<?> type = Commutator.class;
        Check.holds("the class is public and final",
                Modifier.isPublic(type.getModifiers()) && Modifier.isFinal(type.getModifiers()));
        Set<String> shown = new TreeSet<>();
        Set<String> publicNames = new TreeSet<>();
        for (Method m : type.getDeclaredMethods()) {
            if (!Modifier.isPrivate(m.getModifiers()) && !m.isSynthetic()) {
                shown.add(signature(m));
                publicNames.add(m.getName());
            }
        }
        Check.same("the methods", new TreeSet<>(Arrays.asList(FACE)).toString(), shown.toString());
        checkConstructors(type);
        for (Field f : type.getDeclaredFields()) {
            Check.holds("field " + f.getName() + " is private", Modifier.isPrivate(f.getModifiers()));
        }
        checkHiddenNames(type, publicNames);
        for (Class<?> inner : type.getDeclaredClasses()) {
            checkHiddenNames(inner, publicNames);
        }
        Check.end("FaceTest");
    }

    private static String signature(Method m) {
        String text = m.getReturnType().getName() + " " + m.getName() + "(" + listed(m.getParameterTypes()) + ")";
        return m.getExceptionTypes().length == 0 ? text : text + " throws " + listed(m.getExceptionTypes());
    }

    private static String listed(Class<?>[] types) {
        StringBuilder text = new StringBuilder();
        for (Class<?> c : types) {
            text.append(text.length() == 0 ? "" : ",").append(c.getSimpleName());
        }
        return text.toString();
    }

    private static void checkConstructors(Class<?> type) {
        Constructor<?>[] all = type.getDeclaredConstructors();
        Check.holds("one public constructor without parameters", all.length == 1
                && Modifier.isPublic(all[0].getModifiers()) && all[0].getParameterCount() == 0);
    }

    private static void checkHiddenNames(Class<?> type, Set<String> publicNames) {
        for (Method m : type.getDeclaredMethods()) {
            boolean hidden = type != Commutator.class || Modifier.isPrivate(m.getModifiers());
            if (hidden && !m.isSynthetic()) {
                Check.holds(type.getSimpleName() + "." + m.getName() + " bears a name of its own",
                        !publicNames.contains(m.getName()));
            }
        }
    }
}
