import java.lang.reflect.Constructor;
import java.lang.reflect.Field;
import java.lang.reflect.Method;
import java.lang.reflect.Modifier;
import java.nio.file.Files;
import java.nio.file.Path;
import java.util.Arrays;
import java.util.Set;
import java.util.TreeSet;
import java.util.regex.Matcher;
import java.util.regex.Pattern;

/** The face is the document's, and the source keeps to what of LANGUAGE.md can be seen by a glance. */
public final class FaceTest {
    private static final Checks checks = new Checks();
    private static final Set<String> FACE = new TreeSet<>(Set.of("int feed(int,int,int,int,int)", "int trim(int)",
            "int teach()", "int errorAt()", "int count(int)", "int stretch(int,int)", "int horse(int,int)",
            "int log(int,int)", "int needs(int,int)", "int setWeather(int)", "int forge(int,int)", "int clear(int)",
            "int pass(int)", "int arrives(int)", "int breaks(int)", "int foresee(int,int)", "int advise(int)",
            "int choose(int)", "double mean()", "long digest()"));
    private static final String[] FORBIDDEN = {"^\\s*(package|import)\\b", "->", "::", "\\bcatch\\b", "\\bfinally\\b",
        "\\bassert\\b", "\\bsynchronized\\b", "\\bSystem\\.(?!arraycopy)", "\\bstatic \\{", "\" \\+", "\\+ \"", "\\w+Exact\\b",
        "\\bObject\\b", "\\bwhile \\(true\\)", "\\bfor \\(;;\\)"};

    public static void main(String[] args) throws Exception {
        face();
        privateNames();
        source();
        checks.end();
    }

    private static void face() {
        checks.isTrue("the class is public and final", FjordHaul.class.getModifiers() == (Modifier.PUBLIC | Modifier.FINAL));
        checks.isTrue("it extends nothing", FjordHaul.class.getSuperclass() == Object.class);
        Constructor<?>[] constructors = FjordHaul.class.getDeclaredConstructors();
        checks.isTrue("one public constructor", constructors.length == 1 && constructors[0].getParameterCount() == 0
                && Modifier.isPublic(constructors[0].getModifiers()));
        Set<String> methods = new TreeSet<>();
        for (Method method : FjordHaul.class.getDeclaredMethods()) {
            if (!Modifier.isPrivate(method.getModifiers())) {
                methods.add(method.getReturnType() + " " + method.getName()
                        + Arrays.toString(method.getParameterTypes()).replace("[", "(").replace("]", ")").replace(" ", ""));
            }
        }
        checks.isTrue("the methods " + methods, methods.equals(FACE));
        for (Field field : FjordHaul.class.getDeclaredFields()) {
            checks.isTrue("field is private: " + field.getName(), Modifier.isPrivate(field.getModifiers()));
        }
        for (Class<?> inside : FjordHaul.class.getDeclaredClasses()) {
            checks.isTrue("class is static and not public: " + inside.getName(), Modifier.isStatic(inside.getModifiers())
                    && !Modifier.isPublic(inside.getModifiers()) && !Modifier.isProtected(inside.getModifiers()));
        }
        checks.isTrue("at most twelve classes", FjordHaul.class.getDeclaredClasses().length + 1 <= 12);
    }

    private static void privateNames() {
        Set<String> names = new TreeSet<>();
        for (String method : FACE) {
            names.add(method.substring(method.indexOf(' ') + 1, method.indexOf('(')));
        }
        for (Method method : FjordHaul.class.getDeclaredMethods()) {
            checks.isTrue("private name: " + method.getName(),
                    Modifier.isPublic(method.getModifiers()) || !names.contains(method.getName()));
        }
        for (Class<?> inside : FjordHaul.class.getDeclaredClasses()) {
            for (Method method : inside.getDeclaredMethods()) {
                checks.isTrue("name in " + inside.getName() + ": " + method.getName(), !names.contains(method.getName()));
            }
        }
    }

    private static void source() throws Exception {
        String text = Files.readString(Path.of("src/main/java/FjordHaul.java"));
        for (String forbidden : FORBIDDEN) {
            Matcher matcher = Pattern.compile(forbidden, Pattern.MULTILINE).matcher(text);
            checks.isTrue("source has " + forbidden, !matcher.find());
        }
        Matcher thrown = Pattern.compile("\\bthrow\\b(?! new (IllegalStateException|IllegalArgumentException"
                + "|IndexOutOfBoundsException)\\((\"[^\"]*\")?\\);)").matcher(text);
        checks.isTrue("every throw is one of the document's", !thrown.find());
        Matcher constant = Pattern.compile("\\bstatic (?!final\\b|long\\b|int\\b|boolean\\b|void\\b)").matcher(text);
        checks.isTrue("every static field is final", !constant.find());
    }
}
