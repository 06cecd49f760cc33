/** If several exceptions apply, the one that is named first is thrown; a method that throws changes nothing. */
public final class OrderTest {
    public static void main(String[] args) {
        testCountries();
        testHouses();
        testDebts();
        testTills();
        testAsked();
        testWouldBe();
        Check.close("OrderTest");
    }

    private static void testCountries() {
        new Faults("country", (x, a) -> x.country(a[0], a[1], a[2], a[3]), 150, 5, 10, 10)
            .argument(0, 99, 201).argument(1, -1, 51).argument(2, -1, 100000).argument(3, -1, 100000)
            .state((x, a) -> x.country(150, 0, 0, 0)).tryAll();
        new Faults("law", (x, a) -> x.law(a[0], a[1], a[2]), 0, 150, 5)
            .index(0, -1, 3, 4).argument(1, 99, 201).argument(2, -1, 51).tryAll();
        new Faults("gate", (x, a) -> x.gate(a[0], a[1], false), 0, 1)
            .index(0, -1, 3, 4).argument(1, -1, 2).tryAll();
        new Faults("market", (x, a) -> x.market(a[0]), 150).argument(0, 99, 201).tryAll();
        new Faults("road", (x, a) -> x.road(a[0], a[1], a[2], a[3]), 0, 1, 5, 5)
            .index(0, -1, 3).index(1, -1, 3).argument(2, 0, 31).argument(3, -1, 101).same(0, 1).tryAll();
        new Faults("mine", (x, a) -> x.mine(a[0], a[1], a[2]), 0, 0, 10)
            .index(0, -1, 3, 4).argument(1, -1, 2).argument(2, 0, 100000)
            .state((x, a) -> Worlds.mineUpTo(x, 0, 0, 999990)).tryAll();
        new Faults("use", (x, a) -> x.use(a[0], a[1], a[2]), 0, 0, 10)
            .index(0, -1, 3, 4).argument(1, -1, 2).argument(2, 0, 100000)
            .state((x, a) -> x.use(0, 0, 39991)).state(2, 40001).tryAll();
    }

    private static void testHouses() {
        new Faults("house", (x, a) -> x.house(a[0], a[1], a[2]), 0, 10, 10)
            .index(0, -1, 3, 4).argument(1, -1, 100000).argument(2, -1, 100000)
            .state((x, a) -> x.house(2, 0, 0)).tryAll();
        new Faults("change", (x, a) -> x.change(a[0], a[1], a[2]), 0, 0, 10)
            .index(0, -1, 5, 6).argument(1, -1, 2).argument(2, 0, 100000)
            .state(2, 5001).state((x, a) -> x.send(0, 1)).state((x, a) -> x.gate(0, 0, false))
            .state((x, a) -> x.use(0, 1, 99999)).tryAll();
        new Faults("send", (x, a) -> x.send(a[0], a[1]), 0, 1)
            .index(0, -1, 5, 6).index(1, -1, 3, 4).state(1, 0).state((x, a) -> x.send(0, 2)).tryAll();
        new Faults("pass", (x, a) -> x.pass(a[0]), 10)
            .argument(0, 0, 401).state((x, a) -> Worlds.onDay(x, 2991)).tryAll();
    }

    private static void testDebts() {
        new Faults("owe", (x, a) -> x.owe(a[0], a[1], a[2], a[3]), 0, 1, 10, 10)
            .index(0, -1, 5).index(1, -1, 5).argument(2, 0, 10000).argument(3, -1, 1001)
            .state((x, a) -> x.owe(0, 1, 1, 1)).same(0, 1).tryAll();
        new Faults("settle in silver", (x, a) -> x.settle(a[0], a[1]), 8, 1)
            .index(0, -1, 9, 10).argument(1, -1, 2)
            .state((x, a) -> x.change(3, 1, 99100)).state((x, a) -> x.send(3, 1)).state((x, a) -> x.send(4, 2))
            .tryAll();
        new Faults("settle in gold", (x, a) -> x.settle(a[0], a[1]), 8, 0)
            .index(0, -1, 9, 10).argument(1, -1, 2)
            .state((x, a) -> x.change(3, 0, 4941)).state((x, a) -> x.send(4, 2)).tryAll();
        new Faults("settle what is paid", (x, a) -> x.settle(a[0], a[1]), 8, 0)
            .index(0, -1, 9, 10).argument(1, -1, 2)
            .state((x, a) -> x.settle(8, 1)).state((x, a) -> x.send(3, 1)).state((x, a) -> x.send(4, 2)).tryAll();
    }

    private static void testTills() {
        new Faults("till", (x, a) -> x.till(a[0], a[1], a[2]), 0, 1, 5)
            .index(0, -1, 3, 4).index(1, -1, 5).argument(2, -1, 10).tryAll();
        new Faults("give", (x, a) -> x.give(a[0], a[1]), 0, 38)
            .index(0, -1, 3, 4).argument(1, 0, 401).state(1, 343, 400).state(0, 1)
            .state((x, a) -> x.give(0, 305)).tryAll();
        new Faults("coins", (x, a) -> x.coins(a[0], a[1]), 0, 38)
            .index(0, -1, 3, 4).argument(1, 0, 401).tryAll();
    }

    private static void testAsked() {
        new Faults("ofCountry", (x, a) -> x.ofCountry(a[0], a[1]), 0, 0)
            .index(0, -1, 3, 4).argument(1, -1, 9).tryAll();
        new Faults("ofHouse", (x, a) -> x.ofHouse(a[0], a[1]), 0, 0)
            .index(0, -1, 5, 6).argument(1, -1, 8).tryAll();
        new Faults("ofDebt", (x, a) -> x.ofDebt(a[0], a[1]), 0, 0)
            .index(0, -1, 9, 10).argument(1, -1, 7).tryAll();
        new Faults("world", (x, a) -> x.world(a[0], a[1]), 0, 0).argument(0, -1, 2).argument(1, -1, 6).tryAll();
        new Faults("sign", (x, a) -> x.sign(a[0]), 0).index(0, -1, 3, 4).tryAll();
    }

    private static void testWouldBe() {
        new Faults("trip", (x, a) -> x.trip(a[0], a[1], a[2], a[3]), 0, 1, 0, 10)
            .index(0, -1, 3).index(1, -1, 3).argument(2, -1, 2).argument(3, -1, 100000).same(0, 1).tryAll();
        new Faults("bestTrip", (x, a) -> x.bestTrip(a[0], a[1], a[2]), 0, 0, 10)
            .index(0, -1, 3, 4).argument(1, -1, 2).argument(2, -1, 100000).tryAll();
        new Faults("rest", (x, a) -> x.rest(a[0]), 10).argument(0, -1, 100000).tryAll();
        new Faults("last", (x, a) -> x.last(a[0], a[1], a[2]), 0, 0, 10)
            .index(0, -1, 3, 4).argument(1, -1, 2).argument(2, 0, 100000).tryAll();
    }
}
