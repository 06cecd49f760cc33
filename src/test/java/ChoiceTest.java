import java.util.Arrays;

/** What is there at first, what is answered where nothing is there (NONE), and which of several is taken. */
public final class ChoiceTest {
    private static final int NONE = -1;

    public static void main(String[] args) {
        testMarketAtFirst();
        testCountryAtFirst();
        testRoadsAtFirst();
        testHouseAtFirst();
        testDebtAtFirst();
        testNoneOfHouse();
        testNoneOfDebt();
        testNoneOfCoins();
        testNoneOfTrips();
        testNoneOfLast();
        testSmallestOfTrips();
        testGreatestOfTrips();
        testFewestCoins();
        testMostOfKinds();
        testSilverIfAsMuch();
        testGateOfWhatIsBrought();
        testTripWithoutGatesAndVaults();
        testRestOfEachPairAndMetal();
        testPacts();
        testCoinsBesideTheMetals();
        Check.close("ChoiceTest");
    }

    private static void checkFacts(String what, int[] got, int... want) {
        Check.due(what, Arrays.toString(got), Arrays.toString(want));
    }

    private static int[] ofCountry(Twocoin x, int country) {
        int[] facts = new int[9];
        for (int what = 0; what < facts.length; what++) {
            facts[what] = x.ofCountry(country, what);
        }
        return facts;
    }

    private static int[] ofHouse(Twocoin x, int house) {
        int[] facts = new int[8];
        for (int what = 0; what < facts.length; what++) {
            facts[what] = x.ofHouse(house, what);
        }
        return facts;
    }

    private static int[] ofDebt(Twocoin x, int debt) {
        int[] facts = new int[7];
        for (int what = 0; what < facts.length; what++) {
            facts[what] = x.ofDebt(debt, what);
        }
        return facts;
    }

    private static void testMarketAtFirst() {
        Check.due("market at first", new Twocoin().market(100), 155);
        Twocoin x = new Twocoin();
        x.country(200, 0, 10, 0);
        Check.due("worth is by the market, not by the law", x.ofCountry(0, 6), 155);
    }

    private static void testCountryAtFirst() {
        Twocoin x = new Twocoin();
        x.country(123, 45, 67, 89);
        checkFacts("a country at first", ofCountry(x, 0), 123, 45, 67, 89, 3, 0, 1038 + 89, 0, 1);
        x.country(100, 0, 0, 0);
        checkFacts("a country with nothing", ofCountry(x, 1), 100, 0, 0, 0, 3, 0, 0, 0, 1);
        for (int metal = 0; metal < 2; metal++) {
            Check.due("a gate is open at first", x.gate(0, metal, true), true);
            Check.due("a gate is open at first", x.gate(1, metal, false), true);
        }
        for (int kind = 0; kind < 5; kind++) {
            Check.due("no coins at first", x.till(0, kind, 0), 0);
        }
    }

    private static void testRoadsAtFirst() {
        for (int one = 0; one < 4; one++) {
            for (int other = 0; other < 4; other++) {
                if (one != other) {
                    Twocoin x = Worlds.withRates(150, 150, 150, 150);
                    x.house(one, 1000, 2000);
                    Check.due("3 days at first", x.send(0, other), 3);
                    checkFacts("a freight of 10 at first", ofHouse(x, 0), NONE, other, 3, 990, 1980, 17325, 0, 0);
                    Check.due("3 days at first", x.road(one, other, 7, 0), 3);
                    Check.due("the same both ways", x.road(other, one, 8, 0), 7);
                    Check.due("and back", x.road(one, other, 9, 0), 8);
                    checkOtherRoads(x, one, other);
                }
            }
        }
    }

    private static void checkOtherRoads(Twocoin x, int one, int other) {
        for (int pair = 0; pair < 16; pair++) {
            int from = pair / 4;
            int to = pair % 4;
            boolean isTold = from == one && to == other || from == other && to == one;
            if (from != to) {
                Check.due("a road from " + from + " to " + to, x.road(from, to, isTold ? 9 : 3, 10), isTold ? 9 : 3);
            }
        }
    }

    private static void testHouseAtFirst() {
        Twocoin x = Worlds.withRates(150, 150);
        x.house(1, 100, 30);
        checkFacts("a house at first", ofHouse(x, 0), 1, NONE, NONE, 100, 30, 1580, 0, 0);
        x.house(0, 0, 0);
        checkFacts("a house with nothing", ofHouse(x, 1), 0, NONE, NONE, 0, 0, 0, 0, 0);
    }

    private static void testDebtAtFirst() {
        Twocoin x = Worlds.withRates(150);
        x.house(0, 0, 0);
        x.house(0, 0, 0);
        x.pass(9);
        x.owe(1, 0, 777, 20);
        checkFacts("a debt at first", ofDebt(x, 0), 1, 0, 777, 29, 777, 0, 1);
        checkFacts("whose it is", ofHouse(x, 1), 0, NONE, NONE, 0, 0, 0, 1, 0);
        checkFacts("to whom it is", ofHouse(x, 0), 0, NONE, NONE, 0, 0, 0, 0, 1);
    }

    private static void testNoneOfHouse() {
        Twocoin x = Worlds.withRates(150, 150, 150);
        x.house(2, 0, 0);
        x.pass(4);
        checkFacts("at home", ofHouse(x, 0), 2, NONE, NONE, 0, 0, 0, 0, 0);
        x.send(0, 0);
        checkFacts("on the road to country 0", ofHouse(x, 0), NONE, 0, 7, 0, 0, 0, 0, 0);
        x.pass(2);
        checkFacts("on the road still", ofHouse(x, 0), NONE, 0, 7, 0, 0, 0, 0, 0);
        x.pass(1);
        checkFacts("there", ofHouse(x, 0), 0, NONE, NONE, 0, 0, 0, 0, 0);
    }

    private static void testNoneOfDebt() {
        Twocoin x = Worlds.withRates(200, 150);
        x.house(0, 500, 0);
        x.house(0, 0, 0);
        x.owe(0, 1, 100, 0);
        checkFacts("at home", ofDebt(x, 0), 0, 1, 100, 0, 100, 0, 0);
        x.send(1, 1);
        checkFacts("the creditor is on the road", ofDebt(x, 0), 0, 1, 100, 0, 100, 0, 0);
        x.send(0, 1);
        checkFacts("the debtor is on the road", ofDebt(x, 0), 0, 1, 100, 0, 100, 0, NONE);
        x.pass(10);
        checkFacts("both are there, at a rate of 15.0", ofDebt(x, 0), 0, 1, 100, 0, 101, 0, 1);
        x.settle(0, 0);
        checkFacts("it is paid", ofDebt(x, 0), 0, 1, 100, 0, 0, 1, NONE);
        x.send(0, 0);
        checkFacts("it is paid, and the debtor on the road", ofDebt(x, 0), 0, 1, 100, 0, 0, 1, NONE);
        x.pass(100);
        checkFacts("it stays paid", ofDebt(x, 0), 0, 1, 100, 0, 0, 1, NONE);
    }

    private static Twocoin withTill(int... many) {
        Twocoin x = Worlds.withRates(150);
        for (int kind = 0; kind < many.length; kind++) {
            x.till(0, kind, many[kind]);
        }
        return x;
    }

    private static void testNoneOfCoins() {
        Check.due("1 of an empty till", withTill().coins(0, 1), NONE);
        Check.due("400 of an empty till", withTill().coins(0, 400), NONE);
        Check.due("1 of a two", withTill(0, 0, 0, 1, 0).coins(0, 1), NONE);
        Check.due("3 of twos", withTill(0, 0, 0, 9, 0).coins(0, 3), NONE);
        Check.due("3 of a five and a two", withTill(0, 0, 1, 1, 0).coins(0, 3), NONE);
        Check.due("19 of all but twos and ones", withTill(9, 9, 9, 0, 0).coins(0, 19), NONE);
        Check.due("10 of nine ones", withTill(0, 0, 0, 0, 9).coins(0, 10), NONE);
        Check.due("9 of nine ones", withTill(0, 0, 0, 0, 9).coins(0, 9), 9);
        Check.due("343 of all", withTill(9, 9, 9, 9, 9).coins(0, 343), NONE);
        Check.due("342 of all", withTill(9, 9, 9, 9, 9).coins(0, 342), 99999);
        Twocoin x = withTill(0, 0, 0, 2, 0);
        Check.noState(x, "give 3 of two twos", () -> x.give(0, 3));
        Check.answers("give 4 of two twos", () -> x.give(0, 4), 2);
    }

    private static void testNoneOfTrips() {
        Twocoin x = Worlds.withRates(200);
        Check.due("over no other one", x.bestTrip(0, 0, 99999), NONE);
        x.country(200, 0, 0, 0);
        x.road(0, 1, 1, 0);
        Check.due("all comes back", x.trip(0, 1, 0, 1000), 1000);
        Check.due("a gain of 0", x.bestTrip(0, 0, 1000), NONE);
        x.law(1, 199, 0);
        Check.due("200 of gold are 4000, that is 201", x.trip(0, 1, 0, 200), 201);
        Check.due("a gain of 1", x.bestTrip(0, 0, 200), 1);
        Check.due("198 of gold are 3960, that is 198", x.bestTrip(0, 0, 198), NONE);
        Check.due("back it loses", x.bestTrip(1, 0, 200), NONE);
        Check.due("of nothing", x.bestTrip(0, 0, 0), NONE);
        Check.due("a country itself is no other one", x.bestTrip(0, 1, 99999), NONE);
    }

    private static void testNoneOfLast() {
        Twocoin x = Worlds.withRates(150);
        Worlds.mineUpTo(x, 0, 0, 999999);
        Check.due("999999 by 333", x.last(0, 0, 333), NONE);
        Check.due("999999 by 334", x.last(0, 0, 334), 2994);
        Check.due("none of silver", x.last(0, 1, 1), 0);
    }

    private static void testSmallestOfTrips() {
        for (int from = 0; from < 4; from++) {
            Twocoin x = Worlds.withRates(120, 120, 120, 120);
            x.law(from, 180, 0);
            Check.due("the smallest number of three, from " + from, x.bestTrip(from, 0, 1000), from == 0 ? 1 : 0);
            x.law(from == 0 ? 1 : 0, 130, 0);
            int second = from <= 1 ? 2 : 1;
            Check.due("the smallest number of two, from " + from, x.bestTrip(from, 0, 1000), second);
        }
        Twocoin x = Worlds.withRates(100, 180, 180, 180);
        Check.due("silver too", x.bestTrip(0, 1, 1000), 1);
        x.law(1, 100, 0);
        Check.due("silver too", x.bestTrip(0, 1, 1000), 2);
        Twocoin y = Worlds.withRates(150, 149, 148);
        y.road(0, 1, 1, 0);
        y.road(0, 2, 1, 0);
        Check.due("75 of gold come to 75.5 by the first, rounded down", y.trip(0, 1, 0, 75), 75);
        Check.due("and to 76.01 by the second", y.bestTrip(0, 0, 75), 2);
        y.law(1, 148, 0);
        y.law(2, 147, 0);
        Check.due("75 of gold come to 76.01 by the first", y.trip(0, 1, 0, 75), 76);
        Check.due("75 of gold come to 76.5 by the second", y.trip(0, 2, 0, 75), 76);
        Check.due("the first of two that are the same by rounding", y.bestTrip(0, 0, 75), 1);
    }

    private static void testGreatestOfTrips() {
        for (int over = 1; over < 4; over++) {
            Twocoin x = Worlds.withRates(180, 121, 121, 121);
            x.law(over, 120, 0);
            Check.due("the greatest gain, over " + over, x.bestTrip(0, 0, 1000), over);
        }
        Twocoin x = Worlds.withRates(180, 120, 120, 120);
        x.road(0, 1, 30, 100);
        Check.due("less freight is more gain", x.bestTrip(0, 0, 1000), 2);
        x.law(2, 120, 1);
        Check.due("less cut is more gain", x.bestTrip(0, 0, 1000), 3);
        x.road(0, 3, 30, 10);
        Check.due("days do not matter", x.bestTrip(0, 0, 1000), 3);
    }

    private static void testFewestCoins() {
        Check.due("a twenty, not two tens", withTill(1, 2, 4, 9, 9).coins(0, 20), 10000);
        Check.due("two tens, not four fives", withTill(0, 2, 4, 0, 0).coins(0, 20), 2000);
        Check.due("a ten and two fives, not four fives", withTill(0, 1, 4, 0, 5).coins(0, 20), 1200);
        Check.due("a twenty and a ten, not three tens", withTill(1, 3, 2, 0, 0).coins(0, 30), 11000);
        Check.due("a twenty and two fives, where no ten is", withTill(1, 0, 2, 5, 9).coins(0, 30), 10200);
        Check.due("a ten and a five, not three fives", withTill(0, 1, 3, 0, 5).coins(0, 15), 1100);
        Check.due("a five and a one, not three twos", withTill(0, 0, 1, 3, 1).coins(0, 6), 101);
        Check.due("three twos, where no one is", withTill(0, 0, 1, 3, 0).coins(0, 6), 30);
        Check.due("the fives must wait: four twos", withTill(0, 0, 1, 4, 0).coins(0, 8), 40);
        Check.due("the ten must wait: a five and four twos", withTill(0, 1, 1, 4, 0).coins(0, 13), 140);
        Check.due("the five must wait: a ten and three twos", withTill(0, 1, 1, 8, 0).coins(0, 16), 1030);
        Check.due("a ten, two twos and two ones", withTill(0, 1, 0, 2, 9).coins(0, 16), 1022);
        Twocoin x = withTill(0, 0, 1, 4, 0);
        Check.due("give takes just these", x.give(0, 8), 4);
        Check.due("the five is left", x.ofCountry(0, 7), 5);
        Check.due("and is what is given then", x.give(0, 5), 1);
        Check.due("nothing is left", x.ofCountry(0, 7), 0);
    }

    /**
     * By these kinds no two changes with the fewest coins are ever as few (all tills were tried): where two are as
     * few, a third one out of the same coins is fewer. TillTest takes the one with the most of the first kinds.
     */
    private static void testMostOfKinds() {
        Check.due("four twos alone", withTill(0, 0, 0, 4, 0).coins(0, 8), 40);
        Check.due("a five and three ones alone", withTill(0, 0, 1, 0, 3).coins(0, 8), 103);
        Check.due("out of both", withTill(0, 0, 1, 4, 3).coins(0, 8), 111);
        Check.due("a ten and three fives alone", withTill(0, 1, 3, 0, 0).coins(0, 25), 1300);
        Check.due("a twenty, two twos and a one alone", withTill(1, 0, 0, 2, 1).coins(0, 25), 10021);
        Check.due("out of both", withTill(1, 1, 3, 2, 1).coins(0, 25), 10100);
        Check.due("three tens alone", withTill(0, 3, 0, 0, 0).coins(0, 30), 3000);
        Check.due("a twenty and two fives alone", withTill(1, 0, 2, 0, 0).coins(0, 30), 10200);
        Check.due("out of both", withTill(1, 3, 2, 0, 0).coins(0, 30), 11000);
    }

    private static void testSilverIfAsMuch() {
        Twocoin x = Worlds.withRates(155);
        x.house(0, 0, 0);
        x.house(0, 0, 0);
        x.owe(0, 1, 310, 0);
        Check.due("as much: silver", x.ofDebt(0, 6), 1);
        x.market(154);
        Check.due("gold is worth 308", x.ofDebt(0, 6), 0);
        x.market(156);
        Check.due("gold is worth 312", x.ofDebt(0, 6), 1);
    }

    private static void testGateOfWhatIsBrought() {
        for (int metal = 0; metal < 2; metal++) {
            int brought = metal;
            Twocoin x = new Twocoin();
            x.country(100, 0, 1000, 1000);
            x.house(0, 1000, 1000);
            x.gate(0, 1 - metal, false);
            Check.answers("the gate of the other metal does not matter", () -> x.change(0, brought, 10),
                metal == 0 ? 100 : 1);
            x.gate(0, metal, false);
            Check.noState(x, "both gates are shut", () -> x.change(0, brought, 10));
            x.gate(0, 1 - metal, true);
            Check.noState(x, "the gate of what is brought is shut", () -> x.change(0, brought, 10));
            Check.answers("the other one is open", () -> x.change(0, 1 - brought, 10), metal == 0 ? 1 : 100);
        }
    }

    private static void testTripWithoutGatesAndVaults() {
        Twocoin x = Worlds.withRates(180, 120);
        int gold = x.trip(0, 1, 0, 10000);
        int silver = x.trip(1, 0, 1, 10000);
        Check.due("an empty vault gives for it", gold > 10000 && silver > 10000, true);
        for (int gates = 0; gates < 16; gates++) {
            x.gate(0, 0, (gates & 1) == 0);
            x.gate(0, 1, (gates & 2) == 0);
            x.gate(1, 0, (gates & 4) == 0);
            x.gate(1, 1, (gates & 8) == 0);
            Check.due("gates do not matter for gold", x.trip(0, 1, 0, 10000), gold);
            Check.due("gates do not matter for silver", x.trip(1, 0, 1, 10000), silver);
            Check.due("nor for the best trip", x.bestTrip(0, 0, 10000), 1);
            Check.due("nor for rest", x.rest(10000), false);
        }
        x.mine(0, 0, 99999);
        x.mine(1, 1, 99999);
        Check.due("vaults do not matter", x.trip(0, 1, 0, 10000), gold);
    }

    private static void testRestOfEachPairAndMetal() {
        for (int from = 0; from < 4; from++) {
            for (int over = 0; over < 4; over++) {
                Twocoin x = Worlds.withRates(150, 150, 150, 150);
                Check.due("rest of the same rates", x.rest(10000), true);
                if (from != over) {
                    // A gain of this pair alone: the cut of the two others eats theirs.
                    for (int other = 0; other < 4; other++) {
                        x.law(other, 150, 50);
                    }
                    x.law(from, 160, 0);
                    x.law(over, 150, 0);
                    Check.due("no rest by " + from + " and " + over, x.rest(10000), false);
                    x.law(over, 150, 50);
                    Check.due("rest without it", x.rest(10000), true);
                }
            }
        }
    }

    private static void testPacts() {
        int[][] rates = {{150, 150, 150, 150}, {150, 151, 150, 151}, {150, 151, 152, 153}, {150, 151, 151, 151}};
        int[][] pacts = {{4, 4, 4, 4}, {2, 2, 2, 2}, {1, 1, 1, 1}, {1, 3, 3, 3}};
        for (int i = 0; i < rates.length; i++) {
            Twocoin x = Worlds.withRates(rates[i]);
            for (int country = 0; country < 4; country++) {
                x.law(country, rates[i][country], 10 * country);
                Check.due("pact of " + country, x.ofCountry(country, 8), pacts[i][country]);
            }
        }
    }

    private static void testCoinsBesideTheMetals() {
        Twocoin x = Worlds.full();
        String before = Check.stateOf(x);
        x.till(3, 4, 0);
        x.till(3, 4, 1);
        Check.due("a till that is told the same", Check.stateOf(x), before);
        int[] world = new int[12];
        for (int i = 0; i < 12; i++) {
            world[i] = x.world(i / 6, i % 6);
        }
        int worth = x.ofCountry(0, 6);
        x.give(0, 342);
        x.till(1, 0, 9);
        for (int i = 0; i < 12; i++) {
            Check.due("the world's metals", x.world(i / 6, i % 6), world[i]);
        }
        Check.due("worth of the vault", x.ofCountry(0, 6), worth);
        Check.due("isSound", x.isSound(), true);
    }
}
