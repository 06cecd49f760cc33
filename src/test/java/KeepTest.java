import java.util.Arrays;
import java.util.Map;
import java.util.Objects;
import java.util.TreeMap;
import java.util.TreeSet;
import java.util.function.Consumer;
import java.util.function.Supplier;

/** What each call changes, and that it leaves all else as it is; what is asked changes nothing at all. */
public final class KeepTest {
    private static final String[] OF_COUNTRY = {
        "rate", "cut", "gold", "silver", "gates", "houses", "worth", "pounds", "pact",
    };
    private static final String[] OF_HOUSE = {
        "place", "goal", "arrival", "gold", "silver", "worth", "debts of", "debts to",
    };
    private static final String[] OF_DEBT = {"debtor", "creditor", "value", "day", "due", "paid", "cheaper"};
    private static final String[] OF_WORLD = {"vaults", "purses", "carried", "used", "worn", "came"};

    public static void main(String[] args) {
        testCountries();
        testHouses();
        testDays();
        testDebts();
        testTills();
        testNewCountry();
        testNewHouse();
        testNewDebt();
        testAsked();
        testAskedAgain();
        testTwoObjects();
        testPurseWithoutBound();
        Check.close("KeepTest");
    }

    /** All that can be asked of a world; for that it is told other laws, roads and tills, so it is of no use then. */
    private static Map<String, Object> facts(Twocoin x, int countries, int houses, int debts) {
        Map<String, Object> facts = new TreeMap<>();
        for (int i = 0; i < countries; i++) {
            for (int what = 0; what < OF_COUNTRY.length; what++) {
                facts.put("country " + i + " " + OF_COUNTRY[what], x.ofCountry(i, what));
            }
            facts.put("country " + i + " sign", x.sign(i));
        }
        for (int i = 0; i < houses; i++) {
            for (int what = 0; what < OF_HOUSE.length; what++) {
                facts.put("house " + i + " " + OF_HOUSE[what], x.ofHouse(i, what));
            }
        }
        for (int i = 0; i < debts; i++) {
            for (int what = 0; what < OF_DEBT.length; what++) {
                facts.put("debt " + i + " " + OF_DEBT[what], x.ofDebt(i, what));
            }
        }
        for (int i = 0; i < 2 * OF_WORLD.length; i++) {
            facts.put("world " + (i < 6 ? "gold " : "silver ") + OF_WORLD[i % 6], x.world(i / 6, i % 6));
        }
        facts.put("market", x.market(100));
        addRoads(facts, x, countries);
        addCoins(facts, x, countries);
        facts.put("today", x.pass(1) - 1);
        return facts;
    }

    /** By the rate of 10.0 and without a cut, a trip shows the freight. */
    private static void addRoads(Map<String, Object> facts, Twocoin x, int countries) {
        for (int i = 0; i < countries; i++) {
            x.law(i, 100, 0);
        }
        for (int one = 0; one < countries; one++) {
            for (int other = 0; other < countries; other++) {
                if (one != other) {
                    facts.put("road " + one + " " + other + " freight", x.trip(one, other, 0, 10000));
                }
            }
        }
        for (int one = 0; one < countries; one++) {
            for (int other = one + 1; other < countries; other++) {
                facts.put("road " + one + " " + other + " days", x.road(one, other, 1, 0));
            }
        }
    }

    private static void addCoins(Map<String, Object> facts, Twocoin x, int countries) {
        for (int i = 0; i < countries; i++) {
            for (int kind = 0; kind < 5; kind++) {
                facts.put("country " + i + " coins " + kind, x.till(i, kind, 0));
            }
        }
    }

    private static Map<String, Object> factsBehind(Supplier<Twocoin> world, Consumer<Twocoin> call, int more) {
        Twocoin x = world.get();
        call.accept(x);
        return facts(x, 3 + (more == 1 ? 1 : 0), 5 + (more == 2 ? 1 : 0), 9 + (more == 3 ? 1 : 0));
    }

    /** The names of all that has changed, or is new. */
    private static TreeSet<String> changed(Supplier<Twocoin> world, Consumer<Twocoin> call, int more) {
        Map<String, Object> before = factsBehind(world, x -> { }, 0);
        Map<String, Object> behind = factsBehind(world, call, more);
        TreeSet<String> names = new TreeSet<>();
        for (Map.Entry<String, Object> fact : behind.entrySet()) {
            if (!Objects.equals(fact.getValue(), before.get(fact.getKey()))) {
                names.add(fact.getKey());
            }
        }
        return names;
    }

    private static void checkChanged(String what, Supplier<Twocoin> world, Consumer<Twocoin> call, String... want) {
        Check.due(what + " changes", changed(world, call, 0), new TreeSet<>(Arrays.asList(want)));
    }

    private static void testCountries() {
        checkChanged("law", Worlds::roomy, x -> x.law(1, 190, 9),
            "country 1 rate", "country 1 cut", "country 1 sign", "debt 1 cheaper");
        checkChanged("law of a cut", Worlds::roomy, x -> x.law(1, 165, 4), "country 1 cut");
        checkChanged("law as it was", Worlds::roomy, x -> x.law(1, 165, 3));
        checkChanged("law of another one's rate", Worlds::roomy, x -> x.law(1, 150, 3),
            "country 0 pact", "country 1 pact", "country 1 rate", "country 1 sign", "debt 4 cheaper", "debt 6 cheaper");
        checkChanged("gate", Worlds::roomy, x -> x.gate(2, 1, false), "country 2 gates", "country 2 sign");
        checkChanged("gate as it was", Worlds::roomy, x -> x.gate(2, 1, true));
        checkChanged("market", Worlds::roomy, x -> x.market(156),
            "market", "country 0 worth", "country 1 worth", "country 2 worth", "house 0 worth", "house 1 worth",
            "house 2 worth", "house 3 worth", "house 4 worth");
        checkChanged("road", Worlds::roomy, x -> x.road(2, 1, 9, 9),
            "road 1 2 days", "road 1 2 freight", "road 2 1 freight");
        checkChanged("road as it was", Worlds::roomy, x -> x.road(2, 1, 3, 10));
        checkChanged("mine of gold", Worlds::roomy, x -> x.mine(2, 0, 5),
            "country 2 gold", "country 2 worth", "world gold vaults", "world gold came");
        checkChanged("mine of silver", Worlds::roomy, x -> x.mine(0, 1, 5),
            "country 0 silver", "country 0 worth", "world silver vaults", "world silver came");
        checkChanged("use of gold", Worlds::roomy, x -> x.use(2, 0, 5),
            "country 2 gold", "country 2 worth", "world gold vaults", "world gold used");
        checkChanged("use of silver", Worlds::roomy, x -> x.use(1, 1, 5),
            "country 1 silver", "country 1 worth", "world silver vaults", "world silver used");
    }

    private static void testHouses() {
        checkChanged("change of gold", Worlds::roomy, x -> x.change(3, 0, 100),
            "house 3 gold", "house 3 silver", "house 3 worth", "country 0 gold", "country 0 silver", "country 0 worth",
            "world gold vaults", "world gold purses", "world silver vaults", "world silver purses");
        checkChanged("change of silver", Worlds::roomy, x -> x.change(2, 1, 1000),
            "house 2 gold", "house 2 silver", "house 2 worth", "country 2 gold", "country 2 silver", "country 2 worth",
            "world gold vaults", "world gold purses", "world silver vaults", "world silver purses");
        checkChanged("change that gives nothing", Worlds::roomy, x -> x.change(2, 1, 5),
            "house 2 silver", "house 2 worth", "country 2 silver", "country 2 worth",
            "world silver vaults", "world silver purses");
        checkChanged("send", Worlds::roomy, x -> x.send(3, 2),
            "house 3 place", "house 3 goal", "house 3 arrival", "house 3 gold", "house 3 silver", "house 3 worth",
            "country 0 houses", "country 0 sign", "debt 3 cheaper", "debt 8 cheaper",
            "world gold purses", "world gold carried", "world silver purses", "world silver carried");
    }

    private static Twocoin onTheRoad() {
        Twocoin x = Worlds.roomy();
        x.road(0, 2, 7, 0);
        x.send(3, 2);
        return x;
    }

    private static void testDays() {
        checkChanged("pass", Worlds::roomy, x -> x.pass(9), "today");
        checkChanged("pass behind a day that is due", Worlds::roomy, x -> x.pass(10), "today", "debt 0 due");
        checkChanged("pass on the road", KeepTest::onTheRoad, x -> x.pass(6), "today");
        checkChanged("pass up to where it goes", KeepTest::onTheRoad, x -> x.pass(7),
            "today", "house 3 place", "house 3 goal", "house 3 arrival", "country 2 houses", "country 2 sign",
            "debt 3 cheaper", "debt 8 cheaper");
        Supplier<Twocoin> world = () -> Worlds.onDay(Worlds.roomy(), 29);
        checkChanged("pass up to a day of wear", world, x -> x.pass(1),
            "today", "debt 0 due", "country 0 silver", "country 1 silver", "country 2 silver", "country 0 worth",
            "country 1 worth", "country 2 worth", "world silver vaults", "world silver worn");
    }

    private static void testDebts() {
        checkChanged("settle in silver", Worlds::roomy, x -> x.settle(2, 1),
            "debt 2 due", "debt 2 paid", "debt 2 cheaper", "house 2 silver", "house 2 worth", "house 2 debts of",
            "house 3 silver", "house 3 worth", "house 3 debts to");
        checkChanged("settle in gold", Worlds::roomy, x -> x.settle(8, 0),
            "debt 8 due", "debt 8 paid", "debt 8 cheaper", "house 3 gold", "house 3 worth", "house 3 debts of",
            "house 4 gold", "house 4 worth", "house 4 debts to");
    }

    private static void testTills() {
        checkChanged("till", Worlds::roomy, x -> x.till(1, 3, 4), "country 1 coins 3", "country 1 pounds");
        checkChanged("till as it was", Worlds::roomy, x -> x.till(0, 3, 9));
        checkChanged("give", Worlds::roomy, x -> x.give(0, 26),
            "country 0 coins 0", "country 0 coins 2", "country 0 coins 4", "country 0 pounds");
    }

    private static void addAll(TreeSet<String> names, String what, String[] facts) {
        for (String fact : facts) {
            names.add(what + " " + fact);
        }
    }

    private static void testNewCountry() {
        TreeSet<String> want = new TreeSet<>();
        addAll(want, "country 3", OF_COUNTRY);
        addAll(want, "country 3", new String[] {"sign", "coins 0", "coins 1", "coins 2", "coins 3", "coins 4"});
        addAll(want, "road 0 3", new String[] {"days", "freight"});
        addAll(want, "road 1 3", new String[] {"days", "freight"});
        addAll(want, "road 2 3", new String[] {"days", "freight"});
        addAll(want, "road 3", new String[] {"0 freight", "1 freight", "2 freight"});
        addAll(want, "world gold", new String[] {"vaults", "came"});
        addAll(want, "world silver", new String[] {"vaults", "came"});
        Check.due("a country changes", changed(Worlds::roomy, x -> x.country(190, 1, 2, 3), 1), want);
        want.add("country 1 pact");
        Check.due("one with a known rate changes", changed(Worlds::roomy, x -> x.country(165, 1, 2, 3), 1), want);
    }

    private static void testNewHouse() {
        TreeSet<String> want = new TreeSet<>();
        addAll(want, "house 5", OF_HOUSE);
        addAll(want, "country 1", new String[] {"houses", "sign"});
        addAll(want, "world gold", new String[] {"purses", "came"});
        addAll(want, "world silver", new String[] {"purses", "came"});
        Check.due("a house changes", changed(Worlds::roomy, x -> x.house(1, 2, 3), 2), want);
    }

    private static void testNewDebt() {
        TreeSet<String> want = new TreeSet<>();
        addAll(want, "debt 9", OF_DEBT);
        want.add("house 4 debts of");
        want.add("house 2 debts to");
        Check.due("a debt changes", changed(Worlds::roomy, x -> x.owe(4, 2, 77, 5), 3), want);
    }

    private static Twocoin lived() {
        Twocoin x = Worlds.full();
        x.send(1, 0);
        x.settle(3, 0);
        x.gate(2, 1, false);
        x.pass(47);
        x.send(2, 3);
        return x;
    }

    private static Object[] askedOf(Twocoin x) {
        return new Object[] {
            x.coins(0, 38), x.coins(3, 2), x.coins(1, 1), x.ofCountry(0, 6), x.ofHouse(2, 5), x.ofDebt(2, 6),
            x.world(1, 4), x.sign(0), x.trip(0, 1, 0, 1000), x.trip(1, 0, 1, 99999), x.bestTrip(1, 0, 1000),
            x.bestTrip(0, 1, 1000), x.rest(1000), x.rest(0), x.last(0, 0, 10), x.last(1, 1, 5000), x.isSound(),
            x.digest(),
        };
    }

    private static void testAsked() {
        Twocoin x = lived();
        String before = Check.stateOf(x);
        Object[] answers = askedOf(x);
        for (int what = 0; what <= 8; what++) {
            x.ofCountry(3, what);
            x.ofHouse(1, Math.min(what, 7));
            x.ofDebt(3, Math.min(what, 6));
            x.world(what % 2, Math.min(what, 5));
        }
        Check.due("what is asked changes nothing", Check.stateOf(x), before);
        Check.due("asked of another such world", Arrays.toString(askedOf(lived())), Arrays.toString(answers));
    }

    /** Up to the 512th call; digest() as often as that. */
    private static void testAskedAgain() {
        Twocoin x = lived();
        String answers = Arrays.toString(askedOf(x));
        for (int i = 0; i < 23; i++) {
            Check.due("asked again", Arrays.toString(askedOf(x)), answers);
        }
        Twocoin y = Worlds.withRates(150, 160);
        long digest = y.digest();
        for (int i = 4; i <= 512; i++) {
            Check.due("digest of call " + i, y.digest(), digest);
        }
    }

    private static void testTwoObjects() {
        Twocoin x = lived();
        long digest = x.digest();
        Twocoin y = new Twocoin();
        Check.due("another object begins empty", y.world(0, 5) + y.world(1, 5), 0);
        Check.noIndex(y, "it has no country", () -> y.sign(0));
        y.market(200);
        Check.due("its countries begin at 0", y.country(111, 11, 1, 11), 0);
        y.country(200, 0, 99999, 99999);
        y.road(0, 1, 30, 100);
        Check.due("its houses begin at 0", y.house(1, 5, 55), 0);
        y.house(0, 5, 55);
        Check.due("its debts begin at 0", y.owe(1, 0, 5, 5), 0);
        y.till(0, 0, 3);
        y.use(1, 1, 99999);
        y.send(0, 0);
        Check.due("its days begin at 0", y.pass(400), 400);
        Check.due("the first one stays", x.digest(), digest);
        Check.due("today of the first one", x.pass(1), 48);
    }

    /** Only what comes in a purse at first is 99999 at most. */
    private static void testPurseWithoutBound() {
        Twocoin x = new Twocoin();
        x.country(200, 0, 99999, 99999);
        Worlds.mineUpTo(x, 0, 1, 999999);
        x.house(0, 99999, 99999);
        x.house(0, 0, 99999);
        Check.answers("a change brings a purse above 99999", () -> x.change(0, 0, 40000), 800000);
        Check.due("and it has that", x.ofHouse(0, 4), 899999);
        Check.noArgument(x, "though 99999 at most are brought", () -> x.change(0, 1, 100000));
        x.owe(0, 1, 9999, 0);
        Check.answers("a debt brings a purse above 99999", () -> x.settle(0, 1), 9999);
        Check.due("and it has that", x.ofHouse(1, 4), 109998);
        Check.due("isSound", x.isSound(), true);
    }
}
