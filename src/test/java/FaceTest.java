import java.io.IOException;
import java.lang.reflect.Constructor;
import java.lang.reflect.Field;
import java.lang.reflect.Method;
import java.lang.reflect.Modifier;
import java.nio.file.Files;
import java.nio.file.Path;
import java.util.Arrays;
import java.util.Set;
import java.util.TreeSet;
import java.util.regex.Pattern;

/** The public face of the document, and the words that LANGUAGE.md leaves out of the class. */
public final class FaceTest {
    private static final String FACE = """
        int feed(int, int, int, int, int)
        int end(int)
        int law(int, int)
        int fault(int)
        int lawOn(int, int)
        int person(int, int, int)
        int degree(int, int)
        int rank(int, int, int)
        int ranked(int, int, int)
        boolean dead(int, int)
        int truce(int, int, int, int)
        int later(int)
        int hurt(int, int, long, int, int, boolean)
        int sum(int, int)
        int oath(int, int)
        int of(int, int)
        int pays(int, int, int)
        int has(int, int, int)
        int judge(int)
        boolean rate(int, int)
        int pay(int, int, int)
        int owed(int, int)
        int about(int)
        """;

    public static void main(String[] args) throws IOException {
        Set<String> publicNames = methodsAreTheFace();
        fieldsAndConstructor();
        classesInside(publicNames);
        sourceKeepsToTheLanguage();
        Due.finish();
    }

    private static Set<String> methodsAreTheFace() {
        Set<String> due = new TreeSet<>(FACE.lines().toList());
        Set<String> got = new TreeSet<>();
        Set<String> names = new TreeSet<>();
        for (Method method : BloodPrice.class.getDeclaredMethods()) {
            if (!Modifier.isPrivate(method.getModifiers())) {
                String takes = Arrays.toString(method.getParameterTypes()).replace("[", "(").replace("]", ")");
                got.add(method.getReturnType() + " " + method.getName() + takes);
                names.add(method.getName());
            }
        }
        Due.is("methods " + got, got.equals(due), true);
        noPrivateNamesake(BloodPrice.class, names);
        return names;
    }

    private static void noPrivateNamesake(Class<?> inside, Set<String> publicNames) {
        for (Method method : inside.getDeclaredMethods()) {
            boolean face = inside == BloodPrice.class && Modifier.isPublic(method.getModifiers());
            Due.is(inside + " " + method.getName(), !face && publicNames.contains(method.getName()), false);
            Due.is("parameters of " + method.getName(), method.getParameterCount() <= 7, true);
        }
    }

    private static void fieldsAndConstructor() {
        Due.is("final", Modifier.isFinal(BloodPrice.class.getModifiers()), true);
        for (Field field : BloodPrice.class.getDeclaredFields()) {
            int modifiers = field.getModifiers();
            Due.is("private " + field, Modifier.isPrivate(modifiers), !field.getName().equals("NONE"));
            Due.is("final " + field, !Modifier.isStatic(modifiers) || Modifier.isFinal(modifiers), true);
        }
        Constructor<?>[] constructors = BloodPrice.class.getDeclaredConstructors();
        Due.is("constructors", constructors.length, 1);
        Due.is("parameters", constructors[0].getParameterCount(), 0);
        Due.is("public", Modifier.isPublic(constructors[0].getModifiers()), true);
    }

    private static void classesInside(Set<String> publicNames) {
        Class<?>[] inside = BloodPrice.class.getDeclaredClasses();
        Due.is("at most 12 classes", inside.length <= 11, true);
        for (Class<?> one : inside) {
            int modifiers = one.getModifiers();
            Due.is("static " + one, Modifier.isStatic(modifiers), true);
            Due.is("hidden " + one, Modifier.isPublic(modifiers) || Modifier.isProtected(modifiers), false);
            noPrivateNamesake(one, publicNames);
        }
    }

    private static void sourceKeepsToTheLanguage() throws IOException {
        String source = Files.readString(Path.of("src/main/java/BloodPrice.java"));
        String bare = source.replaceAll("(?s)/\\*.*?\\*/", "").replaceAll("//[^\n]*", "");
        String[] leftOut = {"\\bthrow\\b", "\\btry\\b", "\\bcatch\\b", "\\bsynchronized\\b", "\\bassert\\b",
            "->", "::", "Exact\\b", "\\bpackage\\b", "\\bimport\\b", "\\bSystem\\.(?!arraycopy)", "\\bequals\\b",
            "\\bhashCode\\b", "\\btoString\\b", "\\bstatic\\s*\\{"};
        for (String pattern : leftOut) {
            Due.is(pattern, Pattern.compile(pattern).matcher(bare).find(), false);
        }
    }
}
