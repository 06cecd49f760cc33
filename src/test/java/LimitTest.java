import java.util.function.Supplier;

/**
 * Each number of each method: the last value that is allowed and the first that is not, on both sides. A call
 * answers what shows that the value came in.
 */
public final class LimitTest {
    private interface Call {
        int answer(Twocoin x, int value);
    }

    public static void main(String[] args) {
        testCountry();
        testLaw();
        testGate();
        testMarket();
        testRoad();
        testMine();
        testUse();
        testHouse();
        testChange();
        testSend();
        testPass();
        testOwe();
        testSettle();
        testTill();
        testGive();
        testCoins();
        testOfCountry();
        testOfHouse();
        testOfDebt();
        testWorld();
        testSign();
        testTrip();
        testBestTrip();
        testRest();
        testLast();
        Check.close("LimitTest");
    }

    /** A number that is an argument: outside of its range it is no argument. */
    private static void argument(String what, int low, int high, Call call, int atLow, int atHigh) {
        ends(Worlds::full, what, low, high, call, atLow, atHigh);
        outside(Worlds::full, IllegalArgumentException.class, what, low, high, call);
    }

    /** A number of a country, house, debt or kind: outside of its range there is no such one. */
    private static void index(String what, int high, Call call, int atLow, int atHigh) {
        ends(Worlds::full, what, 0, high, call, atLow, atHigh);
        outside(Worlds::full, IndexOutOfBoundsException.class, what, 0, high, call);
    }

    /** For a call that needs room for one more of something. */
    private static void argumentInRoom(String what, int low, int high, Call call, int atLow, int atHigh) {
        ends(Worlds::roomy, what, low, high, call, atLow, atHigh);
        outside(Worlds::roomy, IllegalArgumentException.class, what, low, high, call);
    }

    private static void indexInRoom(String what, int high, Call call, int atLow, int atHigh) {
        ends(Worlds::roomy, what, 0, high, call, atLow, atHigh);
        outside(Worlds::roomy, IndexOutOfBoundsException.class, what, 0, high, call);
    }

    private static void ends(
            Supplier<Twocoin> world, String what, int low, int high, Call call, int atLow, int atHigh) {
        Check.answers(what + " " + low, () -> call.answer(world.get(), low), atLow);
        Check.answers(what + " " + high, () -> call.answer(world.get(), high), atHigh);
    }

    private static void outside(
            Supplier<Twocoin> world, Class<?> wrong, String what, int low, int high, Call call) {
        int[] values = {low - 1, high + 1, Worlds.LOWEST, Worlds.HIGHEST, -1 - high};
        for (int value : values) {
            Twocoin x = world.get();
            Check.throwsDue(x, what + " " + value, wrong, () -> call.answer(x, value));
        }
    }

    private static void testCountry() {
        argumentInRoom("country, rate", 100, 200, (x, v) -> x.ofCountry(x.country(v, 0, 0, 0), 0), 100, 200);
        argumentInRoom("country, cut", 0, 50, (x, v) -> x.ofCountry(x.country(150, v, 0, 0), 1), 0, 50);
        argumentInRoom("country, gold", 0, 99999, (x, v) -> x.ofCountry(x.country(150, 0, v, 0), 2), 0, 99999);
        argumentInRoom("country, silver", 0, 99999, (x, v) -> x.ofCountry(x.country(150, 0, 0, v), 3), 0, 99999);
    }

    private static void testLaw() {
        index("law, country", 3, (x, v) -> x.law(v, 120, 5), 150, 150);
        argument("law, rate", 100, 200, (x, v) -> x.law(1, v, 5) + x.ofCountry(1, 0), 165 + 100, 165 + 200);
        argument("law, cut", 0, 50, (x, v) -> x.law(1, 120, v) + x.ofCountry(1, 1), 165, 165 + 50);
    }

    private static void testGate() {
        index("gate, country", 3, (x, v) -> x.gate(v, 1, false) ? x.ofCountry(v, 4) : -2, 1, 1);
        argument("gate, metal", 0, 1, (x, v) -> x.gate(2, v, false) ? x.ofCountry(2, 4) : -2, 2, 1);
    }

    private static void testMarket() {
        argument("market", 100, 200, (x, v) -> x.market(v) + x.ofHouse(0, 5), 155 + 149999, 155 + 199999);
    }

    private static void testRoad() {
        index("road, one", 3, (x, v) -> x.road(v, 1, 9, 9) + x.road(1, v, 3, 9), 12, 12);
        index("road, other", 3, (x, v) -> x.road(2, v, 9, 9) + x.road(v, 2, 3, 9), 12, 12);
        argument("road, days", 1, 30, (x, v) -> x.road(0, 1, v, 9) + x.send(0, 1), 3 + 1, 3 + 30);
        argument("road, freight", 0, 100, (x, v) -> x.road(0, 1, 3, v) + x.send(0, 1) + x.ofHouse(0, 3), 5006, 4506);
    }

    private static void testMine() {
        index("mine, country", 3, (x, v) -> x.mine(v, 0, 7), 40007, 40007);
        argument("mine, metal", 0, 1, (x, v) -> x.mine(1, v, 7), 40007, 100006);
        argument("mine, grams", 1, 99999, (x, v) -> x.mine(1, 0, v), 40001, 139999);
        for (int metal = 0; metal < 2; metal++) {
            int brought = metal;
            Twocoin x = Worlds.full();
            Worlds.mineUpTo(x, 0, metal, 999990);
            Check.noState(x, "mine up to 1000000", () -> x.mine(0, brought, 10));
            Check.answers("mine up to 999999", () -> x.mine(0, brought, 9), 999999);
            Check.noState(x, "mine 1 above 999999", () -> x.mine(0, brought, 1));
            Check.noState(x, "mine 99999 above 999999", () -> x.mine(0, brought, 99999));
            Check.answers("mine the other metal", () -> x.mine(0, 1 - brought, 1), brought == 0 ? 100000 : 40001);
            Check.answers("mine in another country", () -> x.mine(1, brought, 1), brought == 0 ? 40001 : 100000);
        }
    }

    private static void testUse() {
        index("use, country", 3, (x, v) -> x.use(v, 0, 7), 39993, 39993);
        argument("use, metal", 0, 1, (x, v) -> x.use(1, v, 7), 39993, 99992);
        argument("use, grams", 1, 99999, (x, v) -> x.use(1, 1, v), 99998, 0);
        Twocoin x = Worlds.full();
        Check.noState(x, "use one more than there is", () -> x.use(2, 0, 40001));
        Check.answers("use all", () -> x.use(2, 0, 40000), 0);
        Check.noState(x, "use 1 of nothing", () -> x.use(2, 0, 1));
        Check.answers("use of the other metal", () -> x.use(2, 1, 1), 99998);
    }

    private static void testHouse() {
        indexInRoom("house, country", 2, (x, v) -> x.ofHouse(x.house(v, 0, 0), 0), 0, 2);
        argumentInRoom("house, gold", 0, 99999, (x, v) -> x.ofHouse(x.house(1, v, 0), 3), 0, 99999);
        argumentInRoom("house, silver", 0, 99999, (x, v) -> x.ofHouse(x.house(1, 0, v), 4), 0, 99999);
    }

    private static void testChange() {
        index("change, house", 5, (x, v) -> x.change(v, 0, 100), 1492, 1485);
        argument("change, metal", 0, 1, (x, v) -> x.change(0, v, 100), 1492, 5);
        argument("change, grams", 1, 99999, (x, v) -> x.change(0, 1, v), 0, 6632);
        Twocoin x = Worlds.withRates(100);
        Worlds.mineUpTo(x, 0, 1, 999990);
        x.house(0, 99999, 0);
        Check.noArgument(x, "change of 100000", () -> x.change(0, 0, 100000));
        Check.answers("change of 99999 of gold", () -> x.change(0, 0, 99999), 999990);
        Check.answers("and all back", () -> x.change(0, 1, 99990), 9999);
        testChangePurse();
        testChangeVault();
    }

    private static void testChangePurse() {
        Twocoin x = Worlds.withRates(100);
        x.mine(0, 0, 1000);
        x.mine(0, 1, 1000);
        x.house(0, 7, 70);
        Check.noState(x, "one more gold than the purse has", () -> x.change(0, 0, 8));
        Check.noState(x, "one more silver than the purse has", () -> x.change(0, 1, 71));
        Check.answers("all gold of the purse", () -> x.change(0, 0, 7), 70);
        Check.answers("all silver of the purse", () -> x.change(0, 1, 140), 14);
        Check.noState(x, "silver of an empty purse", () -> x.change(0, 1, 1));
    }

    /** What the vault has is looked at ahead of what is brought, and less the cut. */
    private static void testChangeVault() {
        Twocoin x = new Twocoin();
        x.country(100, 10, 9, 98);
        x.house(0, 1000, 1000);
        Check.noState(x, "99 of silver, where 98 are", () -> x.change(0, 0, 10));
        x.mine(0, 1, 1);
        Check.answers("99 of silver, where 99 are", () -> x.change(0, 0, 10), 99);
        x.use(0, 0, 11);
        Check.noState(x, "9 of gold, where 8 are", () -> x.change(0, 1, 100));
        x.mine(0, 0, 1);
        Check.answers("9 of gold, where 9 are", () -> x.change(0, 1, 100), 9);
        Check.answers("nothing, where nothing is", () -> x.change(0, 1, 9), 0);
        Check.due("what was brought stays in the vault", x.ofCountry(0, 3), 109);
    }

    private static void testSend() {
        index("send, house", 5, (x, v) -> x.send(v, 1), 3, 3);
        index("send, country", 3, (x, v) -> x.send(1, v), 3, 3);
    }

    private static void testPass() {
        argument("pass", 1, 400, (x, v) -> x.pass(v), 1, 400);
        Twocoin x = Worlds.onDay(Worlds.full(), 2600);
        Check.noArgument(x, "pass of 401 up to 3001", () -> x.pass(401));
        Check.answers("pass of 400 up to 3000", () -> x.pass(400), 3000);
        Check.noState(x, "pass of 1 up to 3001", () -> x.pass(1));
        Check.noState(x, "pass of 400 up to 3400", () -> x.pass(400));
        Twocoin y = Worlds.onDay(Worlds.full(), 2601);
        Check.noState(y, "pass of 400 up to 3001", () -> y.pass(400));
        Check.answers("pass of 399 up to 3000", () -> y.pass(399), 3000);
    }

    private static void testOwe() {
        indexInRoom("owe, from", 4, (x, v) -> x.ofDebt(x.owe(v, 1, 1, 1), 0), 0, 4);
        indexInRoom("owe, to", 4, (x, v) -> x.ofDebt(x.owe(1, v, 1, 1), 1), 0, 4);
        argumentInRoom("owe, value", 1, 9999, (x, v) -> x.ofDebt(x.owe(1, 2, v, 1), 2), 1, 9999);
        argumentInRoom("owe, days", 0, 1000, (x, v) -> x.ofDebt(x.owe(1, 2, 1, v), 3), 0, 1000);
    }

    private static void testSettle() {
        index("settle, debt", 9, (x, v) -> x.settle(v, 1), 100, 1000);
        argument("settle, metal", 0, 1, (x, v) -> x.settle(2, v), 22, 300);
        for (int metal = 0; metal < 2; metal++) {
            int[] grams = {100, 1500};
            int paid = metal;
            Twocoin x = Worlds.withRates(150);
            x.house(0, 99 * (1 - metal), 1499 * metal);
            x.house(0, 0, 0);
            x.house(0, 1 - metal, metal);
            x.owe(0, 1, 1500, 0);
            x.owe(2, 0, 1, 0);
            Check.noState(x, "a debtor with one gram less", () -> x.settle(0, paid));
            Check.answers("one gram for it", () -> x.settle(1, paid), 1);
            Check.answers("a debtor with just as much", () -> x.settle(0, paid), grams[metal]);
            Check.due("which has nothing then", x.ofHouse(0, 3 + metal), 0);
        }
    }

    private static void testTill() {
        index("till, country", 3, (x, v) -> x.till(v, 0, 7) + x.ofCountry(v, 7), 9 + 302, 141);
        index("till, kind", 4, (x, v) -> x.till(2, v, 7) + x.ofCountry(2, 7), 140, 7);
        argument("till, many", 0, 9, (x, v) -> x.till(2, 4, v) + x.till(2, 4, 0), 0, 9);
        for (int kind = 0; kind < 5; kind++) {
            int told = kind;
            argument("till of 0, kind " + kind, 0, 9, (x, v) -> x.till(0, told, v) + x.till(0, told, 0), 9, 18);
        }
    }

    private static void testGive() {
        index("give, country", 3, (x, v) -> x.give(v, 1), 1, 1);
        Twocoin x = Worlds.full();
        Check.noArgument(x, "give 0", () -> x.give(0, 0));
        Check.noArgument(x, "give 401", () -> x.give(0, 401));
        Check.noState(x, "give 400, which no till has", () -> x.give(0, 400));
        Check.noState(x, "give 343, one more than a till can have", () -> x.give(0, 343));
        Check.answers("give 342", () -> x.give(0, 342), 45);
        Check.noState(x, "give 1 of nothing", () -> x.give(0, 1));
        Check.noState(x, "give 2, where 1 is", () -> x.give(3, 2));
        Check.answers("give 1, where 1 is", () -> x.give(3, 1), 1);
    }

    private static void testCoins() {
        index("coins, country", 3, (x, v) -> x.coins(v, 38), 11111, -1);
        argument("coins, amount", 1, 400, (x, v) -> x.coins(0, v), 1, -1);
        Twocoin x = Worlds.full();
        Check.answers("coins of 342", () -> x.coins(0, 342), 99999);
        Check.answers("coins of 343", () -> x.coins(0, 343), -1);
        Check.answers("coins of 341", () -> x.coins(0, 341), 99998);
    }

    private static void testOfCountry() {
        index("ofCountry, country", 3, (x, v) -> x.ofCountry(v, 1), 5, 10);
        argument("ofCountry, what", 0, 8, (x, v) -> x.ofCountry(0, v), 150, 2);
    }

    private static void testOfHouse() {
        index("ofHouse, house", 5, (x, v) -> x.ofHouse(v, 0), 0, 3);
        argument("ofHouse, what", 0, 7, (x, v) -> x.ofHouse(4, v), 1, 2);
    }

    private static void testOfDebt() {
        index("ofDebt, debt", 9, (x, v) -> x.ofDebt(v, 2), 100, 1000);
        argument("ofDebt, what", 0, 6, (x, v) -> x.ofDebt(9, v), 5, 1);
    }

    private static void testWorld() {
        argument("world, metal", 0, 1, (x, v) -> x.world(v, 5), 190000, 10 * 99999);
        argument("world, what", 0, 5, (x, v) -> x.world(0, v), 160000, 190000);
    }

    private static void testSign() {
        index("sign, country", 3, (x, v) -> x.sign(v).equals("15.0gs" + (v == 0 ? "**" : "*")) ? 1 : 0, 1, 1);
    }

    private static void testTrip() {
        index("trip, from", 3, (x, v) -> x.trip(v, 2, 0, 100), 103, 103);
        index("trip, over", 3, (x, v) -> x.trip(2, v, 0, 100), 90, 90);
        argument("trip, metal", 0, 1, (x, v) -> x.trip(2, 1, v, 1000), 828, 1139);
        argument("trip, grams", 0, 99999, (x, v) -> x.trip(2, 1, 1, v), 0, 115141);
    }

    private static void testBestTrip() {
        index("bestTrip, from", 3, (x, v) -> x.bestTrip(v, 0, 10000), 2, 2);
        argument("bestTrip, metal", 0, 1, (x, v) -> x.bestTrip(1, v, 10000), 2, -1);
        argument("bestTrip, grams", 0, 99999, (x, v) -> x.bestTrip(1, 0, v), -1, 2);
    }

    private static void testRest() {
        argument("rest", 0, 99999, (x, v) -> x.rest(v) ? 1 : 0, 1, 0);
    }

    private static void testLast() {
        index("last, country", 3, (x, v) -> x.last(v, 0, 100), 400, 400);
        argument("last, metal", 0, 1, (x, v) -> x.last(0, v, 40000), 1, 2);
        argument("last, grams", 1, 99999, (x, v) -> x.last(0, 0, v), -1, 0);
    }
}
