import java.lang.reflect.Constructor;
import java.lang.reflect.Field;
import java.lang.reflect.Method;
import java.lang.reflect.Modifier;
import java.util.Arrays;
import java.util.Set;
import java.util.TreeSet;

/** The public face, and rule 1 of LANGUAGE.md. */
final class FaceTest {
    private static final String[] FACE = {
        "int put(int,int,int) IllegalArgumentException IllegalStateException",
        "int mark(int) NoSuchElementException IllegalStateException",
        "int erase(int,boolean) NoSuchElementException IllegalStateException",
        "void retain(int,int,boolean) NoSuchElementException IllegalArgumentException IllegalStateException",
        "boolean hold(int,int,boolean) NoSuchElementException IllegalArgumentException",
        "void rule(int,int,boolean,int,int) IllegalArgumentException",
        "boolean unrule(int) IllegalArgumentException",
        "int fetch(int,int) NoSuchElementException IllegalArgumentException IllegalStateException",
        "int read(int) NoSuchElementException IllegalStateException",
        "int tick(int) IllegalArgumentException",
        "int current(int) NoSuchElementException",
        "int about(int,int) NoSuchElementException IllegalArgumentException",
        "int entry(int,int) IllegalArgumentException IndexOutOfBoundsException",
        "long link()",
        "int figure(int) IllegalArgumentException"};

    public static void main(String[] args) {
        Class<RetentionVault> vault = RetentionVault.class;
        Checks.due("public and final", true,
                Modifier.isPublic(vault.getModifiers()) && Modifier.isFinal(vault.getModifiers()));
        Set<String> open = new TreeSet<>();
        Set<String> names = new TreeSet<>();
        for (Method m : vault.getDeclaredMethods()) {
            if (!Modifier.isPrivate(m.getModifiers())) {
                open.add(told(m));
                names.add(m.getName());
            }
        }
        Set<String> want = new TreeSet<>(Arrays.asList(FACE));
        Checks.due("the methods are " + open + ", due are " + want, true, open.equals(want));
        for (Method m : vault.getDeclaredMethods()) {
            Checks.due(m.getName() + " is one only", true,
                    !Modifier.isPrivate(m.getModifiers()) || !names.contains(m.getName()));
        }
        for (Field f : vault.getDeclaredFields()) {
            Checks.due(f.getName() + " is private", true, Modifier.isPrivate(f.getModifiers()));
            Checks.due(f.getName() + " is no static state", true,
                    !Modifier.isStatic(f.getModifiers()) || Modifier.isFinal(f.getModifiers()));
        }
        for (Constructor<?> c : vault.getDeclaredConstructors()) {
            Checks.due("the constructor", true,
                    Modifier.isPublic(c.getModifiers()) && c.getParameterCount() == 0);
        }
        for (Class<?> c : vault.getDeclaredClasses()) {
            Checks.due(c.getName() + " is static and not public", true,
                    Modifier.isStatic(c.getModifiers()) && !Modifier.isPublic(c.getModifiers())
                            && !Modifier.isProtected(c.getModifiers()));
        }
        Checks.end();
    }

    private static String told(Method m) {
        StringBuilder text = new StringBuilder(m.getReturnType().getName()).append(' ').append(m.getName());
        StringBuilder types = new StringBuilder();
        for (Class<?> type : m.getParameterTypes()) {
            types.append(types.length() == 0 ? "" : ",").append(type.getName());
        }
        text.append('(').append(types).append(')');
        for (Class<?> type : m.getExceptionTypes()) {
            text.append(' ').append(type.getSimpleName());
        }
        return text.toString();
    }
}
