import com.sun.management.ThreadMXBean;
import java.lang.management.ManagementFactory;

/**
 * All calls of one run live in one room: what an object and its calls make is counted, in bytes. The room has some
 * 7.3 million fields and elements of 600,000 objects; a run here may have a hundredth of that.
 */
public final class RoomTest {
    /** With those that make a full world, no object is called more than 512 times. */
    private static final int CALLS = 450;
    private static final long MOST_OF_A_RUN = 300_000;
    private static final long MOST_OF_A_WORLD = 8_000;

    private static final ThreadMXBean THREADS = (ThreadMXBean) ManagementFactory.getThreadMXBean();

    private interface Call {
        void call(Twocoin x, int i);
    }

    private static Object kept;

    public static void main(String[] args) {
        testCounts();
        testWorld();
        testCountries();
        testHouses();
        testTills();
        testAsked();
        testWouldBe();
        testSign();
        Check.close("RoomTest");
    }

    /** The calls on a first object are not counted: in them, the machine makes things of its own. */
    private static long made(Call call, int calls) {
        Twocoin x = Worlds.full();
        for (int i = 0; i < calls; i++) {
            call.call(x, i);
        }
        Twocoin y = Worlds.full();
        long before = THREADS.getCurrentThreadAllocatedBytes();
        for (int i = 0; i < calls; i++) {
            call.call(y, i);
        }
        return THREADS.getCurrentThreadAllocatedBytes() - before;
    }

    /** Without this, a machine that does not count would let all pass. */
    private static void testCounts() {
        Check.due("what is made is counted", made((x, i) -> kept = new int[1000], CALLS) > CALLS * 4000L, true);
    }

    private static void testWorld() {
        long made = made((x, i) -> kept = Worlds.full(), 1);
        Check.due("a full world of " + made + " bytes is small", made > 0 && made <= MOST_OF_A_WORLD, true);
    }

    private static void nothing(String what, Call call) {
        nothing(what, call, CALLS);
    }

    private static void nothing(String what, Call call, int calls) {
        long made = made(call, calls);
        Check.due(what + " makes " + made + " bytes: nothing", made < calls, true);
    }

    private static void testCountries() {
        nothing("law", (x, i) -> x.law(i % 4, 150 + i % 9, i % 9));
        nothing("gate", (x, i) -> x.gate(i % 4, i % 2, i % 3 > 0));
        nothing("market", (x, i) -> x.market(150 + i % 9));
        nothing("road", (x, i) -> x.road(i % 4, (i + 1) % 4, 1 + i % 3, i % 9));
        nothing("mine", (x, i) -> x.mine(i % 4, 1, 9));
        nothing("use", (x, i) -> x.use(i % 4, 1, 9));
    }

    private static void testHouses() {
        nothing("change", (x, i) -> x.change(1, i % 2, i % 2 == 0 ? 1 : 17));
        nothing("pass", (x, i) -> x.pass(1 + i % 6));
        nothing("send, and days on the road", RoomTest::sendAndBring, CALLS / 3);
        nothing("settle", (x, i) -> x.settle(i, 1), 10);
    }

    private static void sendAndBring(Twocoin x, int i) {
        x.send(0, (x.ofHouse(0, 0) + 1) % 4);
        x.pass(3);
    }

    private static void testTills() {
        nothing("till", (x, i) -> x.till(i % 4, i % 5, i % 9));
        nothing("give", (x, i) -> x.give(0, x.till(0, 4, 9) > 0 ? 1 : 2), CALLS / 2);
        nothing("coins", (x, i) -> x.coins(i % 4, 1 + i % 400));
    }

    private static void testAsked() {
        nothing("ofCountry", (x, i) -> x.ofCountry(i % 4, i % 9));
        nothing("ofHouse", (x, i) -> x.ofHouse(i % 6, i % 8));
        nothing("ofDebt", (x, i) -> x.ofDebt(i % 10, i % 7));
        nothing("world", (x, i) -> x.world(i % 2, i % 6));
        nothing("isSound", (x, i) -> x.isSound());
        nothing("digest", (x, i) -> x.digest());
    }

    private static void testWouldBe() {
        nothing("trip", (x, i) -> x.trip(i % 4, (i + 1) % 4, i % 2, i));
        nothing("bestTrip", (x, i) -> x.bestTrip(i % 4, i % 2, i));
        nothing("rest", (x, i) -> x.rest(i));
        nothing("last", (x, i) -> x.last(i % 4, i % 2, i + 1));
    }

    private static void testSign() {
        long made = made((x, i) -> kept = x.sign(i % 4), CALLS);
        Check.due("signs of " + made + " bytes are small", made > 0 && made <= MOST_OF_A_RUN, true);
    }
}
