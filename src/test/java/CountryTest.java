/** Promises 1 to 8: a new object, country, law, gate, market, road, mine, use. */
public final class CountryTest {
    private static final int LOW = Integer.MIN_VALUE;
    private static final int HIGH = Integer.MAX_VALUE;

    public static void main(String[] args) {
        testNew();
        testCountry();
        testLaw();
        testGate();
        testMarket();
        testRoad();
        testMine();
        testUse();
        Check.close("CountryTest");
    }

    private static void testNew() {
        Twocoin x = new Twocoin();
        for (int metal = 0; metal < 2; metal++) {
            for (int what = 0; what < 6; what++) {
                Check.due("world of a new object", x.world(metal, what), 0);
            }
        }
        Check.noIndex(x, "ofCountry(0, 0) of a new object", () -> x.ofCountry(0, 0));
        Check.noIndex(x, "ofHouse(0, 0) of a new object", () -> x.ofHouse(0, 0));
        Check.noIndex(x, "ofDebt(0, 0) of a new object", () -> x.ofDebt(0, 0));
        Check.due("rest without countries", x.rest(99999), true);
        Check.due("isSound of a new object", x.isSound(), true);
        Check.due("pass(1) of a new object: TODAY was 0", x.pass(1), 1);
    }

    private static void testCountry() {
        Twocoin x = new Twocoin();
        Check.noArgument(x, "country, rate 99", () -> x.country(99, 0, 0, 0));
        Check.noArgument(x, "country, rate 201", () -> x.country(201, 0, 0, 0));
        Check.noArgument(x, "country, cut -1", () -> x.country(100, -1, 0, 0));
        Check.noArgument(x, "country, cut 51", () -> x.country(100, 51, 0, 0));
        Check.noArgument(x, "country, gold -1", () -> x.country(100, 0, -1, 0));
        Check.noArgument(x, "country, gold 100000", () -> x.country(100, 0, 100000, 0));
        Check.noArgument(x, "country, silver -1", () -> x.country(100, 0, 0, -1));
        Check.noArgument(x, "country, silver 100000", () -> x.country(100, 0, 0, 100000));
        Check.noArgument(x, "country, all too low", () -> x.country(LOW, LOW, LOW, LOW));
        Check.noArgument(x, "country, all too high", () -> x.country(HIGH, HIGH, HIGH, HIGH));
        Check.due("first country", x.country(100, 0, 0, 99999), 0);
        Check.due("second country", x.country(200, 50, 99999, 0), 1);
        Check.due("third country", x.country(155, 7, 12, 34), 2);
        Check.due("fourth country", x.country(156, 8, 56, 78), 3);
        Check.noState(x, "fifth country", () -> x.country(155, 0, 0, 0));
        Check.noArgument(x, "fifth country, rate 99", () -> x.country(99, 0, 0, 0));
        Check.due("rate", x.ofCountry(2, 0), 155);
        Check.due("cut", x.ofCountry(2, 1), 7);
        Check.due("gold", x.ofCountry(2, 2), 12);
        Check.due("silver", x.ofCountry(2, 3), 34);
        Check.due("gates are open at first", x.ofCountry(2, 4), 3);
        Check.due("tills are empty at first", x.ofCountry(2, 7), 0);
        Check.due("gold that came", x.world(0, 5), 99999 + 12 + 56);
        Check.due("silver that came", x.world(1, 5), 99999 + 34 + 78);
    }

    private static void testLaw() {
        Twocoin x = new Twocoin();
        Check.noIndex(x, "law without countries", () -> x.law(0, 150, 0));
        x.country(155, 5, 10, 10);
        x.country(160, 6, 10, 10);
        Check.noIndex(x, "law(-1)", () -> x.law(-1, 99, 51));
        Check.noIndex(x, "law(2)", () -> x.law(2, 99, 51));
        Check.noIndex(x, "law(4)", () -> x.law(4, 150, 5));
        Check.noArgument(x, "law, rate 99", () -> x.law(0, 99, 0));
        Check.noArgument(x, "law, rate 201", () -> x.law(0, 201, 0));
        Check.noArgument(x, "law, cut -1", () -> x.law(0, 100, -1));
        Check.noArgument(x, "law, cut 51", () -> x.law(0, 100, 51));
        Check.due("law answers the rate before", x.law(1, 100, 50), 160);
        Check.due("law answers the rate before", x.law(1, 200, 0), 100);
        Check.due("rate of law", x.ofCountry(1, 0), 200);
        Check.due("cut of law", x.ofCountry(1, 1), 0);
        Check.due("another one's rate", x.ofCountry(0, 0), 155);
        Check.due("another one's cut", x.ofCountry(0, 1), 5);
    }

    private static void testGate() {
        Twocoin x = new Twocoin();
        Check.noIndex(x, "gate without countries", () -> x.gate(0, 0, true));
        x.country(150, 0, 1000, 1000);
        x.country(150, 0, 1000, 1000);
        Check.noIndex(x, "gate(-1)", () -> x.gate(-1, 2, true));
        Check.noIndex(x, "gate(2)", () -> x.gate(2, -1, true));
        Check.noArgument(x, "gate, metal -1", () -> x.gate(0, -1, true));
        Check.noArgument(x, "gate, metal 2", () -> x.gate(0, 2, false));
        Check.due("gate was open", x.gate(0, 0, true), true);
        Check.due("gate was open", x.gate(0, 0, false), true);
        Check.due("gate was shut", x.gate(0, 0, false), false);
        Check.due("silver alone is open", x.ofCountry(0, 4), 2);
        Check.due("gate was open", x.gate(0, 1, false), true);
        Check.due("none is open", x.ofCountry(0, 4), 0);
        Check.due("gate was shut", x.gate(0, 0, true), false);
        Check.due("gold alone is open", x.ofCountry(0, 4), 1);
        Check.due("another one's gates", x.ofCountry(1, 4), 3);
        x.house(0, 10, 150);
        Check.noState(x, "change of silver at a gate that is shut for it", () -> x.change(0, 1, 150));
        Check.due("change of gold, whose gate is open", x.change(0, 0, 10), 150);
        x.gate(0, 0, false);
        x.gate(0, 1, true);
        Check.noState(x, "change of gold at a gate that is shut for it", () -> x.change(0, 0, 1));
        Check.due("change of silver, whose gate is open", x.change(0, 1, 150), 10);
    }

    private static void testMarket() {
        Twocoin x = new Twocoin();
        Check.noArgument(x, "market(99)", () -> x.market(99));
        Check.noArgument(x, "market(201)", () -> x.market(201));
        Check.noArgument(x, "market(lowest)", () -> x.market(LOW));
        Check.noArgument(x, "market(highest)", () -> x.market(HIGH));
        Check.due("market at first", x.market(100), 155);
        Check.due("market before", x.market(200), 100);
        x.country(100, 0, 7, 3);
        Check.due("worth by market", x.ofCountry(0, 6), 143);
        Check.due("market before", x.market(157), 200);
        Check.due("worth by market, rounded down", x.ofCountry(0, 6), 109 + 3);
    }

    private static void testRoad() {
        Twocoin x = new Twocoin();
        x.country(100, 0, 0, 0);
        Check.noIndex(x, "road with one country", () -> x.road(0, 1, 3, 10));
        x.country(100, 0, 0, 0);
        x.country(100, 0, 0, 0);
        Check.noIndex(x, "road(-1, 0)", () -> x.road(-1, 0, 3, 10));
        Check.noIndex(x, "road(0, 3)", () -> x.road(0, 3, 0, 10));
        Check.noIndex(x, "road(3, 3)", () -> x.road(3, 3, 3, 10));
        Check.noIndex(x, "road(4, 0)", () -> x.road(4, 0, 3, 10));
        Check.noArgument(x, "road(1, 1)", () -> x.road(1, 1, 3, 10));
        Check.noArgument(x, "road, days 0", () -> x.road(0, 1, 0, 10));
        Check.noArgument(x, "road, days 31", () -> x.road(0, 1, 31, 10));
        Check.noArgument(x, "road, freight -1", () -> x.road(0, 1, 3, -1));
        Check.noArgument(x, "road, freight 101", () -> x.road(0, 1, 3, 101));
        Check.due("days at first", x.road(0, 1, 30, 100), 3);
        Check.due("days before, the other way", x.road(1, 0, 1, 0), 30);
        Check.due("days before, the first way", x.road(0, 1, 2, 20), 1);
        Check.due("another road", x.road(1, 2, 3, 10), 3);
        x.house(0, 1000, 0);
        x.house(1, 1000, 0);
        Check.due("days there", x.send(0, 1), 2);
        Check.due("days back", x.send(1, 0), 2);
        Check.due("freight there", x.ofHouse(0, 3), 980);
        Check.due("freight back", x.ofHouse(1, 3), 980);
        Check.due("roads are the same both ways", x.isSound(), true);
    }

    private static void testMine() {
        Twocoin x = new Twocoin();
        Check.noIndex(x, "mine without countries", () -> x.mine(0, 0, 1));
        x.country(100, 0, 5, 99999);
        x.country(100, 0, 1, 1);
        Check.noIndex(x, "mine(-1)", () -> x.mine(-1, 2, 0));
        Check.noIndex(x, "mine(2)", () -> x.mine(2, 0, 1));
        Check.noArgument(x, "mine, metal -1", () -> x.mine(0, -1, 1));
        Check.noArgument(x, "mine, metal 2", () -> x.mine(0, 2, 1));
        Check.noArgument(x, "mine, grams 0", () -> x.mine(0, 0, 0));
        Check.noArgument(x, "mine, grams -1", () -> x.mine(0, 0, -1));
        Check.noArgument(x, "mine, grams 100000", () -> x.mine(0, 1, 100000));
        Check.noArgument(x, "mine, grams highest", () -> x.mine(0, 1, HIGH));
        Check.due("gold mined", x.mine(0, 0, 1), 6);
        for (int i = 2; i <= 10; i++) {
            Check.due("silver mined", x.mine(0, 1, 99999), 99999 * i);
        }
        Check.noState(x, "mine above 999999", () -> x.mine(0, 1, 10));
        Check.noArgument(x, "mine above 999999, too many grams", () -> x.mine(0, 1, 100000));
        Check.due("mine up to 999999", x.mine(0, 1, 9), 999999);
        Check.noState(x, "mine above 999999", () -> x.mine(0, 1, 1));
        Check.due("gold that came", x.world(0, 5), 7);
        Check.due("silver that came", x.world(1, 5), 1000000);
        Check.due("another one's gold", x.ofCountry(1, 2), 1);
        x.house(0, 0, 99);
        Check.due("a change may bring a vault above 999999", x.change(0, 1, 50), 5);
        Check.due("and does", x.ofCountry(0, 3), 1000049);
        Check.noState(x, "mine in a vault above 999999", () -> x.mine(0, 1, 1));
    }

    private static void testUse() {
        Twocoin x = new Twocoin();
        Check.noIndex(x, "use without countries", () -> x.use(0, 0, 1));
        x.country(100, 0, 500, 700);
        x.country(100, 0, 500, 700);
        Check.noIndex(x, "use(-1)", () -> x.use(-1, 2, 0));
        Check.noIndex(x, "use(2)", () -> x.use(2, 0, 1));
        Check.noArgument(x, "use, metal -1", () -> x.use(0, -1, 1));
        Check.noArgument(x, "use, metal 2", () -> x.use(0, 2, 1));
        Check.noArgument(x, "use, grams 0", () -> x.use(0, 0, 0));
        Check.noArgument(x, "use, grams lowest", () -> x.use(0, 0, LOW));
        Check.noArgument(x, "use, grams 100000", () -> x.use(0, 1, 100000));
        Check.noState(x, "use of more gold", () -> x.use(0, 0, 501));
        Check.noState(x, "use of more silver", () -> x.use(0, 1, 99999));
        Check.due("gold left", x.use(0, 0, 499), 1);
        Check.due("gold left", x.use(0, 0, 1), 0);
        Check.due("silver left", x.use(1, 1, 300), 400);
        Check.due("gold used", x.world(0, 3), 500);
        Check.due("silver used", x.world(1, 3), 300);
        Check.due("gold in vaults", x.world(0, 0), 500);
        Check.due("silver that came stays", x.world(1, 5), 1400);
    }
}
