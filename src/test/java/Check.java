import java.lang.reflect.Array;
import java.lang.reflect.Field;
import java.lang.reflect.Modifier;

/** Counts answers that are not the ones that are due, and ends the test with exit code 1 if there are any. */
final class Check {
    interface Call {
        void run();
    }

    interface Asked {
        Object answer();
    }

    private static int checks = 0;
    private static int wrong = 0;

    private Check() {
    }

    static void due(String what, Object got, Object want) {
        checks++;
        if (!got.equals(want)) {
            wrong++;
            System.out.println(what + " answered " + got + ", due is " + want);
        }
    }

    /** A call that must answer: one that throws is told like a wrong answer. */
    static void answers(String what, Asked call, Object want) {
        Object got;
        try {
            got = call.answer();
        } catch (RuntimeException e) {
            got = e.getClass();
        }
        due(what, got, want);
    }

    static void noIndex(Twocoin x, String what, Call call) {
        throwsDue(x, what, IndexOutOfBoundsException.class, call);
    }

    static void noArgument(Twocoin x, String what, Call call) {
        throwsDue(x, what, IllegalArgumentException.class, call);
    }

    static void noState(Twocoin x, String what, Call call) {
        throwsDue(x, what, IllegalStateException.class, call);
    }

    /** The class must be the named one itself: a machine's own exception is mostly a subclass of it. */
    static void throwsDue(Twocoin x, String what, Class<?> want, Call call) {
        String before = stateOf(x);
        Object got = "nothing";
        try {
            call.run();
        } catch (RuntimeException e) {
            got = e.getClass();
        }
        due(what + " throws", got, want);
        due(what + " leaves the state", stateOf(x), before);
    }

    /** All that an object holds, field by field: so a call that throws can't have changed what no answer shows yet. */
    static String stateOf(Object x) {
        StringBuilder text = new StringBuilder();
        tell(text, x);
        return text.toString();
    }

    private static void tell(StringBuilder text, Object x) {
        if (x == null || x instanceof Number || x instanceof Boolean || x instanceof String) {
            text.append(x).append(' ');
        } else if (x.getClass().isArray()) {
            for (int i = 0; i < Array.getLength(x); i++) {
                tell(text, Array.get(x, i));
            }
        } else {
            tellFields(text, x);
        }
    }

    private static void tellFields(StringBuilder text, Object x) {
        for (Field field : x.getClass().getDeclaredFields()) {
            if (!Modifier.isStatic(field.getModifiers())) {
                field.setAccessible(true);
                text.append(field.getName()).append('=');
                try {
                    tell(text, field.get(x));
                } catch (IllegalAccessException e) {
                    throw new IllegalStateException(e);
                }
            }
        }
    }

    static void close(String test) {
        System.out.println(test + ": " + (checks - wrong) + " answers as due, " + wrong + " not");
        if (wrong != 0 || checks == 0) {
            System.exit(1);
        }
    }
}
