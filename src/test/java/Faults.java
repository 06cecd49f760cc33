import java.util.ArrayList;
import java.util.Arrays;
import java.util.List;

/**
 * A call that a world with room answers, and all that can be wrong with it. All sets of such faults that can be
 * together are tried: the exception that is named first must be thrown, and nothing may be changed.
 */
final class Faults {
    private static final List<Class<?>> NAMED = List.of(
        IndexOutOfBoundsException.class, IllegalArgumentException.class, IllegalStateException.class);
    private static final int INDEX = 0;
    private static final int ARGUMENT = 1;
    private static final int STATE = 2;
    private static final int NO_ARGUMENT = -1;

    interface Call {
        Object answer(Twocoin x, int[] a);
    }

    interface Bend {
        void bend(Twocoin x, int[] a);
    }

    /** What makes a call throw; two that bend the same argument can't be together. */
    private static final class Fault {
        private final int rank;
        private final int argument;
        private final Bend bend;

        private Fault(int rank, int argument, Bend bend) {
            this.rank = rank;
            this.argument = argument;
            this.bend = bend;
        }
    }

    private final String name;
    private final Call call;
    private final int[] good;
    private final List<Fault> faults = new ArrayList<>();
    private int sets = 0;

    /** A call of a method with arguments that it answers in a world with room. */
    Faults(String name, Call call, int... good) {
        this.name = name;
        this.call = call;
        this.good = good;
    }

    Faults index(int argument, int... values) {
        return values(INDEX, argument, values);
    }

    Faults argument(int argument, int... values) {
        return values(ARGUMENT, argument, values);
    }

    Faults state(int argument, int... values) {
        return values(STATE, argument, values);
    }

    private Faults values(int rank, int argument, int... values) {
        for (int value : values) {
            faults.add(new Fault(rank, argument, (x, a) -> a[argument] = value));
        }
        return this;
    }

    /** Two arguments that are the same: the second one follows the first, whatever that is. */
    Faults same(int first, int second) {
        faults.add(new Fault(ARGUMENT, second, (x, a) -> a[second] = a[first]));
        return this;
    }

    Faults state(Bend bend) {
        faults.add(new Fault(STATE, NO_ARGUMENT, bend));
        return this;
    }

    void tryAll() {
        for (int set = 0; set < 1 << faults.size(); set++) {
            if (canBe(set)) {
                tryOut(set);
                sets++;
            }
        }
        Check.due(name + ": all sets of faults were tried", sets > faults.size(), true);
    }

    private boolean canBe(int set) {
        int bent = 0;
        for (int i = 0; i < faults.size(); i++) {
            int argument = faults.get(i).argument;
            if ((set >> i & 1) == 1 && argument != NO_ARGUMENT) {
                if ((bent >> argument & 1) == 1) {
                    return false;
                }
                bent |= 1 << argument;
            }
        }
        return true;
    }

    private void tryOut(int set) {
        Twocoin x = Worlds.roomy();
        int[] a = good.clone();
        int first = NAMED.size();
        for (int i = 0; i < faults.size(); i++) {
            if ((set >> i & 1) == 1) {
                faults.get(i).bend.bend(x, a);
                first = Math.min(first, faults.get(i).rank);
            }
        }
        String what = name + Arrays.toString(a) + " with faults " + Integer.toBinaryString(set);
        if (first < NAMED.size()) {
            Check.throwsDue(x, what, NAMED.get(first), () -> call.answer(x, a));
        } else {
            Check.answers(what + " answers", () -> call.answer(x, a) != null, true);
        }
    }
}
