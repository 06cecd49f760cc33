import java.io.IOException;
import java.lang.reflect.Constructor;
import java.lang.reflect.Field;
import java.lang.reflect.Method;
import java.lang.reflect.Modifier;
import java.nio.file.Files;
import java.nio.file.Path;
import java.util.Arrays;
import java.util.Set;
import java.util.TreeSet;
import java.util.regex.Pattern;

/** The face of the document and no more, and those rules of LANGUAGE.md that can be seen from outside. */
public final class FaceTest {
    /** Each method, and the exceptions that it names, in their order. */
    private static final String[] FACE = {
        "int bestTrip(int, int, int) index argument",
        "int change(int, int, int) index argument state",
        "int coins(int, int) index argument",
        "int country(int, int, int, int) argument state",
        "long digest()",
        "boolean gate(int, int, boolean) index argument",
        "int give(int, int) index argument state",
        "int house(int, int, int) index argument state",
        "boolean isSound()",
        "int last(int, int, int) index argument",
        "int law(int, int, int) index argument",
        "int market(int) argument",
        "int mine(int, int, int) index argument state",
        "int ofCountry(int, int) index argument",
        "int ofDebt(int, int) index argument",
        "int ofHouse(int, int) index argument",
        "int owe(int, int, int, int) index argument state",
        "int pass(int) argument state",
        "boolean rest(int) argument",
        "int road(int, int, int, int) index argument",
        "int send(int, int) index state",
        "int settle(int, int) index argument state",
        "String sign(int) index",
        "int till(int, int, int) index argument",
        "int trip(int, int, int, int) index argument",
        "int use(int, int, int) index argument state",
        "int world(int, int) argument",
    };

    private static final String[] RULED_OUT = {
        "\\bcatch\\b", "\\bfinally\\b", "\\bsynchronized\\b", "\\bassert\\b", "\\bimport\\b", "->", "::",
        "\\bprotected\\b", "\\bdouble\\b|\\bfloat\\b", "\\bSystem\\b", "Exact\\b", "@Override",
        "\\bequals\\b|\\bhashCode\\b",
    };

    public static void main(String[] args) throws IOException {
        testFace();
        testNoMore();
        testSource();
        Check.close("FaceTest");
    }

    private static void testFace() {
        Set<String> want = new TreeSet<>(Arrays.asList(FACE));
        Set<String> got = new TreeSet<>();
        for (Method method : Twocoin.class.getDeclaredMethods()) {
            if (Modifier.isPublic(method.getModifiers())) {
                String types = Arrays.toString(method.getParameterTypes());
                got.add(method.getReturnType().getSimpleName() + " " + method.getName()
                    + "(" + types.substring(1, types.length() - 1) + ")" + named(method));
                Check.due(method + " is an object's", Modifier.isStatic(method.getModifiers()), false);
            }
        }
        Check.due("the public methods", got, want);
        Check.due("the class is public and final", Twocoin.class.getModifiers(), Modifier.PUBLIC | Modifier.FINAL);
        Check.due("the class has no package", Twocoin.class.getPackageName(), "");
    }

    private static String named(Method method) {
        StringBuilder names = new StringBuilder();
        for (Class<?> exception : method.getExceptionTypes()) {
            String name = exception.getSimpleName();
            names.append(name.startsWith("Index") ? " index" : name.startsWith("IllegalA") ? " argument" : " state");
        }
        return names.toString();
    }

    private static void testNoMore() {
        Set<String> open = new TreeSet<>();
        for (Method method : Twocoin.class.getDeclaredMethods()) {
            if (Modifier.isPublic(method.getModifiers())) {
                open.add(method.getName());
            }
        }
        for (Method method : Twocoin.class.getDeclaredMethods()) {
            boolean isFace = Modifier.isPublic(method.getModifiers());
            Check.due(method + " is public or private", isFace || Modifier.isPrivate(method.getModifiers()), true);
            Check.due(method + " has a name of its own", isFace || !open.contains(method.getName()), true);
            Check.due(method + " takes at most seven", method.getParameterCount() <= 7, true);
        }
        for (Field field : Twocoin.class.getDeclaredFields()) {
            Check.due(field + " is private", Modifier.isPrivate(field.getModifiers()), true);
        }
        Constructor<?>[] constructors = Twocoin.class.getDeclaredConstructors();
        Check.due("one constructor", constructors.length, 1);
        Check.due("it takes nothing", constructors[0].getParameterCount(), 0);
        Check.due("some twelve classes at most", Twocoin.class.getDeclaredClasses().length < 12, true);
        checkFields(Twocoin.class);
        for (Class<?> inside : Twocoin.class.getDeclaredClasses()) {
            Check.due(inside + " is static", Modifier.isStatic(inside.getModifiers()), true);
            Check.due(inside + " is not public", Modifier.isPublic(inside.getModifiers()), false);
            checkFields(inside);
            for (Method method : inside.getDeclaredMethods()) {
                Check.due(method + " has a name of its own", !open.contains(method.getName()), true);
            }
        }
    }

    /** Static fields are constants; of the others a class has some twenty at most. */
    private static void checkFields(Class<?> type) {
        int many = 0;
        for (Field field : type.getDeclaredFields()) {
            if (Modifier.isStatic(field.getModifiers())) {
                Check.due(field + " is final", Modifier.isFinal(field.getModifiers()), true);
                Check.due(field + " is a number", field.getType().isPrimitive(), true);
            } else {
                many++;
            }
        }
        Check.due("fields of " + type, many <= 20, true);
    }

    private static void testSource() throws IOException {
        String source = Files.readString(Path.of("src/main/java/Twocoin.java"));
        for (String pattern : RULED_OUT) {
            Check.due("the source has " + pattern, Pattern.compile(pattern).matcher(source).find(), false);
        }
        Check.due("signs 1 to 127 alone", source.chars().allMatch(sign -> sign >= 1 && sign <= 127), true);
        checkMethodLengths(source.split("\n"));
    }

    /** From a line with a method's name up to each brace that may end it: of the class, or of a class inside. */
    private static void checkMethodLengths(String[] lines) {
        int begin = 0;
        for (int i = 0; i < lines.length; i++) {
            if (lines[i].matches("( {4}| {8})(public|private) .*\\(.*")) {
                begin = i;
            }
            if (lines[i].matches("( {4}| {8})\\}")) {
                Check.due("the method of line " + (begin + 1) + " is short", i - begin < 60, true);
            }
        }
    }
}
