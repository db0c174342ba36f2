import java.lang.reflect.Constructor;
import java.lang.reflect.Field;
import java.lang.reflect.Method;
import java.lang.reflect.Modifier;
import java.nio.file.Files;
import java.nio.file.Path;
import java.util.Set;
import java.util.TreeSet;
import java.util.regex.Pattern;

/** What of LANGUAGE.md a program can look at: the exact face, and words that the rules leave out. */
public final class LanguageTest {
    private static final Checks checks = new Checks();
    private static final Set<String> FACE = Set.of(
            "public static final int DONE", "public static final int REFUSED",
            "public static final int FULL", "public static final int NOT_RUN",
            "public CaseExecutor()",
            "public int add(int,int,int)", "public int clear(int)", "public int run(int,boolean)",
            "public int runAll(int)", "public int told(int,int)", "public int cell(int,int)",
            "public long counter()", "public int count(int)");
    private static final String[] LEFT_OUT = {"\\bimport\\b", "\\bpackage\\b", "\\bsynchronized\\b", "\\bfinally\\b",
        "\\btry\\b", "\\bcatch\\b", "\\bthrow\\b", "\\bassert\\b", "\\bThread\\b", "\\bSystem\\b", "\\bObject\\b",
        "\\bRandom\\b", "\\bvolatile\\b", "->", "::"};

    public static void main(String[] args) throws Exception {
        face();
        staticFields(CaseExecutor.class);
        for (Class<?> inside : CaseExecutor.class.getDeclaredClasses()) {
            insideClass(inside);
        }
        words();
        checks.end("LanguageTest");
    }

    private static void face() {
        Class<CaseExecutor> face = CaseExecutor.class;
        Set<String> open = new TreeSet<>();
        for (Field field : face.getDeclaredFields()) {
            if (!Modifier.isPrivate(field.getModifiers())) {
                open.add(signature(field.toString()));
            }
        }
        for (Constructor<?> constructor : face.getDeclaredConstructors()) {
            open.add(signature(constructor.toString()));
        }
        for (Method method : face.getDeclaredMethods()) {
            if (!Modifier.isPrivate(method.getModifiers())) {
                open.add(signature(method.toString()));
            }
        }
        checks.holds("the face is the document's, not " + open, open.equals(FACE));
        checks.holds("public and final", Modifier.isPublic(face.getModifiers()) && Modifier.isFinal(face.getModifiers()));
        checks.holds("no superclass, no interface",
                face.getSuperclass() == Object.class && face.getInterfaces().length == 0);
    }

    private static String signature(String told) {
        return told.replace("CaseExecutor.", "");
    }

    private static void insideClass(Class<?> inside) {
        checks.holds(inside + " is static", Modifier.isStatic(inside.getModifiers()));
        checks.holds(inside + " is not public", !Modifier.isPublic(inside.getModifiers()));
        for (Method method : inside.getDeclaredMethods()) {
            for (Method open : CaseExecutor.class.getMethods()) {
                checks.holds(method + " has a name of its own", !method.getName().equals(open.getName()));
            }
        }
        staticFields(inside);
    }

    private static void staticFields(Class<?> owner) {
        for (Field field : owner.getDeclaredFields()) {
            if (Modifier.isStatic(field.getModifiers())) {
                checks.holds(field + " is final", Modifier.isFinal(field.getModifiers()));
                checks.holds(field + " is an int", field.getType() == int.class);
            }
        }
    }

    private static void words() throws Exception {
        String source = Files.readString(Path.of("src/main/java/CaseExecutor.java"));
        String code = source.replaceAll("(?s)/\\*.*?\\*/", "").replaceAll("//[^\n]*", "");
        for (String word : LEFT_OUT) {
            checks.holds("no " + word + " in the code", !Pattern.compile(word).matcher(code).find());
        }
    }
}
