import java.lang.reflect.InvocationTargetException;
import java.lang.reflect.Method;
import java.util.ArrayList;
import java.util.List;
import java.util.Map;
import java.util.Random;
import java.util.TreeMap;

/** Runs of 512 calls with seeded arguments, asked of the class and of the model: both must answer the same. */
public final class RandomRunsTest {
    private static final int RUNS = 400;
    private static final int CALLS = 512;

    /** A method of the face: how often it is called, and the range of each argument. */
    private static final class Face {
        private final Method ofClass;
        private final Method ofModel;
        private final int[] ranges;

        private Face(String name, int... ranges) throws NoSuchMethodException {
            Class<?>[] types = new Class<?>[ranges.length / 2];
            java.util.Arrays.fill(types, int.class);
            if (name.equals("gate")) {
                types[2] = boolean.class;
            }
            this.ofClass = Twocoin.class.getMethod(name, types);
            this.ofModel = Model.class.getMethod(name, types);
            this.ranges = ranges;
        }
    }

    private static final List<Face> FACES = new ArrayList<>();
    private static final Map<String, Integer> ANSWERED = new TreeMap<>();

    public static void main(String[] args) throws ReflectiveOperationException {
        fillFaces();
        for (int run = 0; run < RUNS; run++) {
            run(run);
        }
        for (Face face : FACES) {
            String name = face.ofClass.getName();
            Check.due(name + " answered in some of the runs", ANSWERED.getOrDefault(name, 0) > 100, true);
        }
        Check.close("RandomRunsTest");
    }

    private static void fillFaces() throws NoSuchMethodException {
        add(6, "country", 100, 200, 0, 50, 0, 99999, 0, 99999);
        add(5, "law", 0, 3, 100, 200, 0, 50);
        add(3, "gate", 0, 3, 0, 1, 0, 1);
        add(2, "market", 100, 200);
        add(4, "road", 0, 3, 0, 3, 1, 30, 0, 100);
        add(14, "mine", 0, 3, 0, 1, 1, 99999);
        add(5, "use", 0, 3, 0, 1, 1, 99999);
        add(6, "house", 0, 3, 0, 99999, 0, 99999);
        add(24, "change", 0, 5, 0, 1, 1, 99999);
        add(10, "send", 0, 5, 0, 3);
        add(8, "pass", 1, 400);
        add(6, "owe", 0, 5, 0, 5, 1, 9999, 0, 1000);
        add(5, "settle", 0, 9, 0, 1);
        add(10, "till", 0, 3, 0, 4, 0, 9);
        add(6, "give", 0, 3, 1, 400);
        add(4, "coins", 0, 3, 1, 400);
        add(2, "ofCountry", 0, 3, 0, 8);
        add(2, "ofHouse", 0, 5, 0, 7);
        add(2, "ofDebt", 0, 9, 0, 6);
        add(2, "world", 0, 1, 0, 5);
        add(2, "sign", 0, 3);
        add(4, "trip", 0, 3, 0, 3, 0, 1, 0, 99999);
        add(4, "bestTrip", 0, 3, 0, 1, 0, 99999);
        add(2, "rest", 0, 99999);
        add(4, "last", 0, 3, 0, 1, 1, 99999);
        add(1, "isSound");
        add(30, "digest");
    }

    private static void add(int often, String name, int... ranges) throws NoSuchMethodException {
        for (int i = 0; i < often; i++) {
            FACES.add(new Face(name, ranges));
        }
    }

    private static void run(int seed) throws ReflectiveOperationException {
        Random random = new Random(seed);
        Twocoin x = new Twocoin();
        Model model = new Model();
        for (int i = 0; i < CALLS - 1; i++) {
            Face face = FACES.get(random.nextInt(FACES.size()));
            Object[] arguments = argumentsFor(face, random);
            String before = Check.stateOf(x);
            Object got = answer(face.ofClass, x, arguments);
            Object want = answer(face.ofModel, model, arguments);
            String call = face.ofClass.getName() + java.util.Arrays.toString(arguments);
            Check.due("run " + seed + ", call " + i + ", " + call, got, want);
            if (got instanceof Class) {
                Check.due("the state behind run " + seed + ", call " + i + ", " + call, Check.stateOf(x), before);
            } else {
                ANSWERED.merge(face.ofClass.getName(), 1, Integer::sum);
            }
        }
        Check.due("isSound as the last call of run " + seed, x.isSound(), true);
    }

    private static Object[] argumentsFor(Face face, Random random) {
        Object[] arguments = new Object[face.ranges.length / 2];
        for (int i = 0; i < arguments.length; i++) {
            int low = face.ranges[2 * i];
            int high = face.ranges[2 * i + 1];
            boolean isGate = face.ofClass.getParameterTypes()[i] == boolean.class;
            arguments[i] = isGate ? (Object) (random.nextInt(3) > 0) : (Object) argument(low, high, random);
        }
        return arguments;
    }

    /** Mostly within the range, small numbers as often as great ones; at times an edge, or a number outside. */
    private static int argument(int low, int high, Random random) {
        int[] odd = {low, high, low - 1, high + 1, Integer.MIN_VALUE, Integer.MAX_VALUE};
        int kind = random.nextInt(100);
        if (kind < 3) {
            return odd[random.nextInt(odd.length)];
        }
        if (kind < 8) {
            return odd[random.nextInt(2)];
        }
        int span = high - low + 1;
        if (kind < 60 && span > 250) {
            span = Math.max(2, span >> (1 + random.nextInt(9)));
        }
        return low + random.nextInt(span);
    }

    private static Object answer(Method method, Object asked, Object[] arguments) throws ReflectiveOperationException {
        try {
            return method.invoke(asked, arguments);
        } catch (InvocationTargetException e) {
            return e.getCause().getClass();
        }
    }
}
