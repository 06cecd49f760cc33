import java.io.IOException;
import java.lang.reflect.Constructor;
import java.lang.reflect.Field;
import java.lang.reflect.Method;
import java.lang.reflect.Modifier;
import java.nio.file.Files;
import java.nio.file.Path;
import java.util.Arrays;
import java.util.Set;
import java.util.TreeSet;
import java.util.regex.Pattern;

/** The face of the document and no more, and those rules of LANGUAGE.md that can be seen from outside. */
public final class FaceTest {
    private static final String[] FACE = {
        "int bestTrip(int, int, int)",
        "int change(int, int, int)",
        "int coins(int, int)",
        "int country(int, int, int, int)",
        "long digest()",
        "boolean gate(int, int, boolean)",
        "int give(int, int)",
        "int house(int, int, int)",
        "boolean isSound()",
        "int last(int, int, int)",
        "int law(int, int, int)",
        "int market(int)",
        "int mine(int, int, int)",
        "int ofCountry(int, int)",
        "int ofDebt(int, int)",
        "int ofHouse(int, int)",
        "int owe(int, int, int, int)",
        "int pass(int)",
        "boolean rest(int)",
        "int road(int, int, int, int)",
        "int send(int, int)",
        "int settle(int, int)",
        "String sign(int)",
        "int till(int, int, int)",
        "int trip(int, int, int, int)",
        "int use(int, int, int)",
        "int world(int, int)",
    };

    private static final String[] RULED_OUT = {
        "\\bcatch\\b", "\\bfinally\\b", "\\bsynchronized\\b", "\\bassert\\b", "\\bimport\\b", "->", "::",
        "\\bprotected\\b", "\\bdouble\\b|\\bfloat\\b", "\\bSystem\\b", "Exact\\b", "@Override",
        "\\bequals\\b|\\bhashCode\\b",
    };

    public static void main(String[] args) throws IOException {
        testFace();
        testNoMore();
        testSource();
        Check.close("FaceTest");
    }

    private static void testFace() {
        Set<String> want = new TreeSet<>(Arrays.asList(FACE));
        Set<String> got = new TreeSet<>();
        for (Method method : Twocoin.class.getDeclaredMethods()) {
            if (Modifier.isPublic(method.getModifiers())) {
                String types = Arrays.toString(method.getParameterTypes());
                got.add(method.getReturnType().getSimpleName() + " " + method.getName()
                    + "(" + types.substring(1, types.length() - 1) + ")");
                Check.due(method + " is an object's", Modifier.isStatic(method.getModifiers()), false);
            }
        }
        Check.due("the public methods", got, want);
        Check.due("the class is public and final", Twocoin.class.getModifiers(), Modifier.PUBLIC | Modifier.FINAL);
        Check.due("the class has no package", Twocoin.class.getPackageName(), "");
    }

    private static void testNoMore() {
        Set<String> open = new TreeSet<>();
        for (Method method : Twocoin.class.getDeclaredMethods()) {
            if (Modifier.isPublic(method.getModifiers())) {
                open.add(method.getName());
            }
        }
        for (Method method : Twocoin.class.getDeclaredMethods()) {
            boolean isFace = Modifier.isPublic(method.getModifiers());
            Check.due(method + " is public or private", isFace || Modifier.isPrivate(method.getModifiers()), true);
            Check.due(method + " has a name of its own", isFace || !open.contains(method.getName()), true);
            Check.due(method + " takes at most seven", method.getParameterCount() <= 7, true);
        }
        for (Field field : Twocoin.class.getDeclaredFields()) {
            Check.due(field + " is private", Modifier.isPrivate(field.getModifiers()), true);
        }
        Constructor<?>[] constructors = Twocoin.class.getDeclaredConstructors();
        Check.due("one constructor", constructors.length, 1);
        Check.due("it takes nothing", constructors[0].getParameterCount(), 0);
        for (Class<?> inside : Twocoin.class.getDeclaredClasses()) {
            Check.due(inside + " is static", Modifier.isStatic(inside.getModifiers()), true);
            Check.due(inside + " is not public", Modifier.isPublic(inside.getModifiers()), false);
        }
    }

    private static void testSource() throws IOException {
        String source = Files.readString(Path.of("src/main/java/Twocoin.java"));
        for (String pattern : RULED_OUT) {
            Check.due("the source has " + pattern, Pattern.compile(pattern).matcher(source).find(), false);
        }
        Check.due("signs 1 to 127 alone", source.chars().allMatch(sign -> sign >= 1 && sign <= 127), true);
    }
}
