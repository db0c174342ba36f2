import java.lang.reflect.Field;
import java.lang.reflect.Method;
import java.lang.reflect.Modifier;
import java.nio.file.Files;
import java.nio.file.Path;
import java.util.regex.Pattern;

/** What of LANGUAGE.md a program can look at; the exact face (rule 1) is looked at in FaceSentences. */
public final class LanguageTest {
    private static final Checks checks = new Checks();
    private static final String[] LEFT_OUT = {"\\bimport\\b", "\\bpackage\\b", "\\bsynchronized\\b", "\\bfinally\\b",
        "\\btry\\b", "\\bcatch\\b", "\\bthrow\\b", "\\bassert\\b", "\\bThread\\b", "\\bSystem\\b", "\\bObject\\b",
        "\\bRandom\\b", "\\bvolatile\\b", "->", "::"};

    public static void main(String[] args) throws Exception {
        namesOfTheirOwn(CaseExecutor.class);
        staticFields(CaseExecutor.class);
        for (Class<?> inside : CaseExecutor.class.getDeclaredClasses()) {
            insideClass(inside);
        }
        words();
        checks.end("LanguageTest");
    }

    private static void insideClass(Class<?> inside) {
        checks.holds(inside + " is static", Modifier.isStatic(inside.getModifiers()));
        checks.holds(inside + " is not public", !Modifier.isPublic(inside.getModifiers()));
        namesOfTheirOwn(inside);
        staticFields(inside);
    }

    /** No method that is not of the face bears the name of one that is. */
    private static void namesOfTheirOwn(Class<?> owner) {
        for (Method method : owner.getDeclaredMethods()) {
            for (Method open : CaseExecutor.class.getMethods()) {
                checks.holds(method + " has a name of its own",
                        Modifier.isPublic(method.getModifiers()) || !method.getName().equals(open.getName()));
            }
        }
    }

    private static void staticFields(Class<?> owner) {
        for (Field field : owner.getDeclaredFields()) {
            if (Modifier.isStatic(field.getModifiers())) {
                checks.holds(field + " is final", Modifier.isFinal(field.getModifiers()));
                checks.holds(field + " is an int", field.getType() == int.class);
            }
        }
    }

    private static void words() throws Exception {
        String source = Files.readString(Path.of("src/main/java/CaseExecutor.java"));
        String code = source.replaceAll("(?s)/\\*.*?\\*/", "").replaceAll("//[^\n]*", "");
        for (String word : LEFT_OUT) {
            checks.holds("no " + word + " in the code", !Pattern.compile(word).matcher(code).find());
        }
    }
}
