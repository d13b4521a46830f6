import java.io.IOException;
import java.lang.reflect.Constructor;
import java.lang.reflect.Field;
import java.lang.reflect.Method;
import java.lang.reflect.Modifier;
import java.nio.file.Files;
import java.nio.file.Path;
import java.util.Arrays;
import java.util.Set;
import java.util.TreeSet;

/** The public face of the document, and those rules of LANGUAGE.md that can be seen from outside. */
public final class FaceTest {
    private static final Set<String> FACE = new TreeSet<>(Arrays.asList(
            "poke(int, int)", "peek(int)", "set(int, int, int)", "get(int, int)", "status(int)", "saved(int, int)",
            "line(int, boolean)", "step(int)", "count(int)"));

    public static void main(String[] args) throws IOException {
        members();
        insideClasses();
        if (args.length > 0) {
            text(Files.readString(Path.of(args[0], "src/main/java/TwoSetMachine.java")));
        }
        Check.end();
    }

    private static void members() {
        Class<?> face = TwoSetMachine.class;
        Check.due("public and final", face.getModifiers() & (Modifier.PUBLIC | Modifier.FINAL), Modifier.PUBLIC | Modifier.FINAL);
        Set<String> seen = new TreeSet<>();
        for (Method m : face.getDeclaredMethods()) {
            if (!Modifier.isPrivate(m.getModifiers())) {
                StringBuilder s = new StringBuilder(m.getName()).append('(');
                for (Class<?> p : m.getParameterTypes()) {
                    s.append(s.charAt(s.length() - 1) == '(' ? "" : ", ").append(p.getSimpleName());
                }
                seen.add(s.append(')').toString());
                Check.due(m.getName() + " is public", Modifier.isPublic(m.getModifiers()), true);
            }
        }
        Check.dueText("methods", seen.toString(), FACE.toString());
        for (Field f : face.getDeclaredFields()) {
            Check.due(f.getName() + " is private", Modifier.isPrivate(f.getModifiers()), !f.getName().equals("NONE"));
            dueFinalIfStatic(f);
        }
        Constructor<?>[] constructors = face.getDeclaredConstructors();
        Check.due("constructors", constructors.length, 1);
        Check.due("its parameters", constructors[0].getParameterCount(), 0);
    }

    private static void insideClasses() {
        dueShort(TwoSetMachine.class);
        for (Class<?> one : TwoSetMachine.class.getDeclaredClasses()) {
            Check.due(one.getName() + " is static", Modifier.isStatic(one.getModifiers()), true);
            Check.due(one.getName() + " is not public", Modifier.isPublic(one.getModifiers()), false);
            dueShort(one);
            for (Field f : one.getDeclaredFields()) {
                dueFinalIfStatic(f);
            }
        }
    }

    private static void dueShort(Class<?> one) {
        for (Method m : one.getDeclaredMethods()) {
            Check.due(m + " has at most seven parameters", m.getParameterCount() <= 7, true);
            for (String name : FACE) {
                boolean same = name.startsWith(m.getName() + "(");
                Check.due(m + " has a name of its own", same && Modifier.isPrivate(m.getModifiers()), false);
            }
        }
    }

    private static void dueFinalIfStatic(Field f) {
        Check.due(f + " is final, if static", !Modifier.isStatic(f.getModifiers()) || Modifier.isFinal(f.getModifiers()), true);
    }

    private static void text(String text) {
        String[] banned = {"\npackage ", "::", "synchronized", "assert ", "finally", "Thread", "Random", "static {", "currentTimeMillis",
            "nanoTime", "System.out", "System.err", "System.in", "java.io", "java.nio", "java.net"};
        for (String word : banned) {
            Check.due("the program has '" + word + "'", text.contains(word), false);
        }
    }
}
