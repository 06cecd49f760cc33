import java.util.ArrayList;
import java.util.List;

/** The empty world, the full one, all that lie between them, and one call more. */
public final class EmptyFullTest {
    private interface Call {
        Object answer(Twocoin x, int number);
    }

    private static final List<Call> OF_COUNTRY = new ArrayList<>();
    private static final List<Call> OF_HOUSE = new ArrayList<>();
    private static final List<Call> OF_DEBT = new ArrayList<>();

    public static void main(String[] args) {
        fillCalls();
        testEmpty();
        testEmptyLives();
        testCountries();
        testHouses();
        testDebts();
        testOneMoreCountry();
        testOneMoreHouse();
        testOneMoreDebt();
        testFullWorldLives();
        Check.close("EmptyFullTest");
    }

    /** Each call with a number of a country, house or debt; the other arguments are as they may be. */
    private static void fillCalls() {
        OF_COUNTRY.add((x, v) -> x.law(v, 150, 5));
        OF_COUNTRY.add((x, v) -> x.gate(v, 0, true));
        OF_COUNTRY.add((x, v) -> x.mine(v, 0, 1));
        OF_COUNTRY.add((x, v) -> x.use(v, 0, 1));
        OF_COUNTRY.add((x, v) -> x.house(v, 0, 0));
        OF_COUNTRY.add((x, v) -> x.till(v, 4, 1));
        OF_COUNTRY.add((x, v) -> x.give(v, 1));
        OF_COUNTRY.add((x, v) -> x.coins(v, 1));
        OF_COUNTRY.add((x, v) -> x.ofCountry(v, 0));
        OF_COUNTRY.add((x, v) -> x.sign(v));
        OF_COUNTRY.add((x, v) -> x.bestTrip(v, 0, 1));
        OF_COUNTRY.add((x, v) -> x.last(v, 0, 1));
        OF_HOUSE.add((x, v) -> x.change(v, 0, 1));
        OF_HOUSE.add((x, v) -> x.send(v, 1));
        OF_HOUSE.add((x, v) -> x.ofHouse(v, 0));
        OF_DEBT.add((x, v) -> x.settle(v, 1));
        OF_DEBT.add((x, v) -> x.ofDebt(v, 0));
    }

    private static void noneOf(Twocoin x, String what, List<Call> calls, int from) {
        int[] numbers = {from, from + 1, 9, 10, Worlds.HIGHEST, -1, -2, Worlds.LOWEST};
        for (int i = 0; i < calls.size(); i++) {
            for (int number : numbers) {
                if (number < 0 || number >= from) {
                    Call call = calls.get(i);
                    Check.noIndex(x, what + ", call " + i + " of " + number, () -> call.answer(x, number));
                }
            }
        }
    }

    private static void testEmpty() {
        Twocoin x = new Twocoin();
        noneOf(x, "no countries", OF_COUNTRY, 0);
        noneOf(x, "no houses", OF_HOUSE, 0);
        noneOf(x, "no debts", OF_DEBT, 0);
        Check.noIndex(x, "road of no countries", () -> x.road(0, 1, 1, 0));
        Check.noIndex(x, "trip of no countries", () -> x.trip(0, 1, 0, 0));
        Check.noIndex(x, "owe of no houses", () -> x.owe(0, 1, 1, 0));
        for (int metal = 0; metal < 2; metal++) {
            for (int what = 0; what < 6; what++) {
                Check.due("the world is empty", x.world(metal, what), 0);
            }
        }
        Check.due("rest of nothing", x.rest(0), true);
        Check.due("rest of 99999", x.rest(99999), true);
        Check.due("isSound", x.isSound(), true);
    }

    private static void testEmptyLives() {
        Twocoin x = new Twocoin();
        Check.due("days go by", Worlds.onDay(x, 3000).isSound(), true);
        Check.noState(x, "but not behind 3000", () -> x.pass(1));
        Check.due("a market is told", x.market(200), 155);
        Check.due("a country comes on the last day", x.country(100, 0, 1, 1), 0);
        Check.due("and a house", x.house(0, 1, 1), 0);
        Check.due("last of the last day", x.last(0, 0, 2), 3000);
        Check.due("last behind the last day", x.last(0, 0, 1), -1);
    }

    /** With so many countries, just the numbers below that are known, for each call. */
    private static void testCountries() {
        for (int many = 1; many <= 4; many++) {
            Twocoin x = new Twocoin();
            for (int one = 0; one < many; one++) {
                Check.due("country", x.country(150, 0, 100, 100), one);
            }
            noneOf(x, many + " countries", OF_COUNTRY, many);
            noneOf(x, many + " countries, but no houses", OF_HOUSE, 0);
            noneOf(x, many + " countries, but no debts", OF_DEBT, 0);
            for (int one = 0; one < many; one++) {
                known(x, OF_COUNTRY, one, 4);
                checkPairs(x, one, many);
            }
        }
    }

    private static void checkPairs(Twocoin x, int one, int many) {
        Check.noIndex(x, "road to the next", () -> x.road(one, many, 1, 0));
        Check.noIndex(x, "road from the next", () -> x.road(many, one, 1, 0));
        Check.noIndex(x, "trip over the next", () -> x.trip(one, many, 0, 0));
        Check.noIndex(x, "trip from the next", () -> x.trip(many, one, 0, 0));
        for (int other = 0; other < many; other++) {
            if (other != one) {
                Check.due("trip of nothing", x.trip(one, other, 0, 0), 0);
                Check.due("road", x.road(one, other, 3, 10), 3);
            }
        }
    }

    /** All calls but house (at the given place), which a test of many countries can't call too often. */
    private static void known(Twocoin x, List<Call> calls, int number, int but) {
        for (int i = 0; i < calls.size(); i++) {
            if (i != but) {
                Call call = calls.get(i);
                Check.answers("call " + i + " of " + number + " answers", () -> call.answer(x, number) != null, true);
            }
        }
    }

    private static void testHouses() {
        Twocoin x = Worlds.withRates(150, 150, 150, 150);
        for (int many = 1; many <= 6; many++) {
            Check.due("house", x.house(0, 100, 100), many - 1);
            noneOf(x, many + " houses", OF_HOUSE, many);
            int last = many - 1;
            int next = many;
            Check.due("the last house is known", x.ofHouse(last, 3), 100);
            Check.noIndex(x, "debt of the next", () -> x.owe(next, 0, 1, 0));
            Check.noIndex(x, "debt to the next", () -> x.owe(0, next, 1, 0));
        }
        noneOf(x, "houses, but no debts", OF_DEBT, 0);
        x.mine(0, 1, 1000);
        for (int one = 0; one < 6; one++) {
            known(x, OF_HOUSE, one, -1);
        }
    }

    private static void testDebts() {
        Twocoin x = Worlds.withRates(150, 150);
        x.house(0, 100, 100);
        x.house(1, 100, 100);
        for (int many = 1; many <= 10; many++) {
            Check.due("debt", x.owe(0, 1, many, 0), many - 1);
            noneOf(x, many + " debts", OF_DEBT, many);
            Check.due("the last debt is known", x.ofDebt(many - 1, 2), many);
        }
        for (int one = 0; one < 10; one++) {
            known(x, OF_DEBT, one, -1);
        }
    }

    private static void testOneMoreCountry() {
        Twocoin x = Worlds.full();
        for (int i = 0; i < 3; i++) {
            Check.noState(x, "a fifth country", () -> x.country(100, 0, 0, 0));
            Check.noState(x, "a fifth country with all it may have", () -> x.country(200, 50, 99999, 99999));
            Check.noArgument(x, "a fifth country with a wrong rate", () -> x.country(99, 0, 0, 0));
            Check.noIndex(x, "law of a fifth country", () -> x.law(4, 150, 0));
            x.pass(400);
        }
        Check.due("gold that came", x.world(0, 5), 4 * 40000 + 6 * 5000);
    }

    /** Houses on the road count. */
    private static void testOneMoreHouse() {
        Twocoin x = Worlds.full();
        Check.noState(x, "a seventh house", () -> x.house(3, 0, 0));
        x.send(0, 1);
        x.send(5, 1);
        Check.noState(x, "a seventh house, two on the road", () -> x.house(0, 99999, 99999));
        Check.noArgument(x, "a seventh house with too much", () -> x.house(0, 100000, 0));
        Check.noIndex(x, "a seventh house nowhere", () -> x.house(4, 0, 0));
        Check.noIndex(x, "a debt of a seventh house", () -> x.owe(6, 0, 1, 0));
        x.pass(30);
        Check.noState(x, "a seventh house behind that", () -> x.house(0, 0, 0));
    }

    /** Debts that are paid count: they keep their numbers. */
    private static void testOneMoreDebt() {
        Twocoin x = Worlds.full();
        Check.noState(x, "an eleventh debt", () -> x.owe(0, 1, 1, 0));
        for (int debt = 0; debt < 10; debt++) {
            Check.due("debt " + debt + " is paid", x.settle(debt, 1), debt == 9 ? 1000 : 100 * (debt + 1));
            Check.noState(x, "an eleventh debt", () -> x.owe(0, 1, 9999, 1000));
        }
        Check.noArgument(x, "an eleventh debt of nothing", () -> x.owe(0, 1, 0, 0));
        Check.noArgument(x, "an eleventh debt to itself", () -> x.owe(1, 1, 1, 0));
        Check.noIndex(x, "an eleventh debt to nobody", () -> x.owe(1, 6, 1, 0));
        Check.due("the first one is known", x.ofDebt(0, 2), 100);
        Check.due("the last one is known", x.ofDebt(9, 2), 1000);
    }

    /** All goes on in it: what one call takes, another one finds. */
    private static void testFullWorldLives() {
        Twocoin x = Worlds.full();
        Check.due("houses of all countries", x.sign(0) + x.sign(1) + x.sign(2) + x.sign(3),
            "15.0gs**16.5gs**14.0gs*15.0gs*");
        for (int house = 0; house < 6; house++) {
            Check.due("send", x.send(house, (x.ofHouse(house, 0) + 1) % 4), 3);
        }
        Check.due("nobody is there", x.sign(0) + x.sign(1) + x.sign(2) + x.sign(3), "15.0gs16.5gs14.0gs15.0gs");
        Check.due("six carried 50 of gold each", x.world(0, 2), 300);
        Check.due("and 999.99 of silver each, rounded up", x.world(1, 2), 6000);
        x.pass(3);
        Check.due("all are there", x.sign(0) + x.sign(1) + x.sign(2) + x.sign(3), "15.0gs*16.5gs**14.0gs**15.0gs*");
        x.pass(27);
        Check.due("each of four vaults wears", x.world(1, 4), 36);
        Check.due("isSound", x.isSound(), true);
        Check.due("the last house is home", x.ofHouse(5, 0), 0);
    }
}
