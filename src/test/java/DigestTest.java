import java.lang.reflect.Field;

/** Promises 27 and 28: isSound, digest. */
public final class DigestTest {
    public static void main(String[] args) throws ReflectiveOperationException {
        testSound();
        testNotSound();
        testDigestOfNothing();
        testDigest();
        testDigestOfTheFullWorld();
        testDigestOfTheUnsound();
        Check.close("DigestTest");
    }

    private static Twocoin withAll() {
        Twocoin x = new Twocoin();
        x.country(155, 5, 3000, 60000);
        x.country(140, 3, 1000, 20000);
        x.country(155, 0, 100, 12345);
        x.road(0, 1, 9, 3);
        x.house(0, 500, 100);
        x.house(1, 50, 9999);
        x.house(2, 7, 777);
        x.till(0, 0, 1);
        x.till(0, 1, 2);
        x.till(0, 3, 9);
        x.till(0, 4, 1);
        x.owe(0, 1, 5000, 3);
        x.owe(1, 2, 500, 0);
        x.owe(2, 0, 50, 40);
        x.market(149);
        x.gate(2, 1, false);
        x.change(0, 0, 100);
        x.send(1, 0);
        x.pass(20);
        x.settle(1, 0);
        x.send(2, 1);
        x.use(0, 1, 999);
        x.pass(10);
        x.send(0, 1);
        return x;
    }

    private static void testSound() {
        Check.due("isSound of a new object", new Twocoin().isSound(), true);
        Twocoin x = withAll();
        Check.due("isSound", x.isSound(), true);
        x.pass(8);
        Check.due("isSound a day before a house is there", x.isSound(), true);
        x.pass(1);
        Check.due("isSound as it is there", x.isSound(), true);
    }

    /** No call makes an object unsound: so the state is bent from outside. */
    private static void testNotSound() throws ReflectiveOperationException {
        String[] stocks = {"came", "carried", "used", "worn"};
        for (String stock : stocks) {
            checkBent(stock, -1, "gold");
            checkBent(stock, -1, "silver");
        }
        checkBent("countries", 1, "vault");
        checkBent("houses", 2, "purse");
        checkBent("countries", 0, "roadDays");
        checkBent("countries", 2, "roadFreights");
        checkBent("countries", 2, "till");
        checkBent("houses", 0, "arrival");
        checkBelowZero();
    }

    private static void checkBent(String holder, int at, String field) throws ReflectiveOperationException {
        Twocoin x = withAll();
        Object held = valueOf(x, holder);
        if (at >= 0) {
            held = ((Object[]) held)[at];
        }
        bend(held, field);
        Check.due("isSound with a bent " + field + " of " + holder, x.isSound(), false);
    }

    private static void bend(Object held, String field) throws ReflectiveOperationException {
        Object value = valueOf(held, field);
        if (field.equals("arrival")) {
            fieldOf(held, field).setInt(held, 30);
        } else if (value instanceof Integer) {
            fieldOf(held, field).setInt(held, (Integer) value + 1);
        } else if (value instanceof int[]) {
            ((int[]) value)[1]++;
        } else if (field.equals("till")) {
            ((int[]) valueOf(value, "many"))[4] = -1;
        } else {
            bend(value, "silver");
        }
    }

    /** What is there is what came, but one of two has less than 0. */
    private static void checkBelowZero() throws ReflectiveOperationException {
        String[] rows = {"countries", "houses"};
        String[] stocks = {"vault", "purse"};
        String[] metals = {"gold", "silver"};
        for (int i = 0; i < 2; i++) {
            for (String metal : metals) {
                Twocoin x = withAll();
                Object[] row = (Object[]) valueOf(x, rows[i]);
                Object one = valueOf(row[0], stocks[i]);
                Object other = valueOf(row[1], stocks[i]);
                int moved = (Integer) valueOf(one, metal) + 1;
                fieldOf(one, metal).setInt(one, -1);
                fieldOf(other, metal).setInt(other, (Integer) valueOf(other, metal) + moved);
                Check.due("isSound with " + metal + " of a " + stocks[i] + " below 0", x.isSound(), false);
            }
        }
    }

    private static Field fieldOf(Object held, String name) throws ReflectiveOperationException {
        Field field = held.getClass().getDeclaredField(name);
        field.setAccessible(true);
        return field;
    }

    private static Object valueOf(Object held, String name) throws ReflectiveOperationException {
        return fieldOf(held, name).get(held);
    }

    private static void testDigestOfNothing() {
        long d = 5573;
        d = d * 31;
        d = d * 31 + 155;
        for (int i = 0; i < 12; i++) {
            d = d * 31;
        }
        d = d * 31 + 1;
        d = d * 31 + 1;
        Check.due("digest of a new object", new Twocoin().digest(), d);
    }

    private static void testDigest() {
        Twocoin x = withAll();
        checkDigest(x, 30, 149, 3, 3, 3);
        x.country(200, 50, 99999, 99999);
        x.market(200);
        x.owe(0, 2, 9999, 1000);
        checkDigest(x, x.pass(400), 200, 4, 3, 4);
        Check.due("no rest in it", x.rest(1000), false);
        String before = Check.stateOf(x);
        x.digest();
        Check.due("a digest changes nothing", Check.stateOf(x), before);
        testDigestOfThousand();
    }

    /** Two countries with a gain of just 1000 grams, and of neither 999 nor 1001. */
    private static void testDigestOfThousand() {
        Twocoin x = new Twocoin();
        x.country(169, 0, 0, 0);
        x.country(165, 1, 0, 0);
        Check.due("rest of 999", x.rest(999), true);
        Check.due("rest of 1000", x.rest(1000), false);
        Check.due("rest of 1001", x.rest(1001), true);
        checkDigest(x, 0, 155, 2, 0, 0);
    }

    private static Twocoin fullAndLived() {
        Twocoin x = Worlds.full();
        x.settle(9, 0);
        x.send(0, 1);
        x.send(5, 2);
        x.market(100);
        return x;
    }

    private static void testDigestOfTheFullWorld() {
        checkDigest(Worlds.full(), 0, 155, 4, 6, 10);
        checkDigest(fullAndLived(), 0, 100, 4, 6, 10);
        Twocoin x = Worlds.onDay(fullAndLived(), 2999);
        checkDigest(x, 2999, 100, 4, 6, 10);
        x.send(0, 3);
        checkDigest(x, x.pass(1), 100, 4, 6, 10);
    }

    private static void testDigestOfTheUnsound() throws ReflectiveOperationException {
        Twocoin x = withAll();
        bend(valueOf(x, "worn"), "silver");
        Check.due("isSound", x.isSound(), false);
        checkDigest(x, 30, 149, 3, 3, 3);
    }

    private static void checkDigest(Twocoin x, int today, int market, int countries, int houses, int debts) {
        Digest d = new Digest();
        d.add(today);
        d.add(market);
        for (int metal = 0; metal < 2; metal++) {
            for (int what = 0; what <= 5; what++) {
                d.add(x.world(metal, what));
            }
        }
        for (int country = 0; country < countries; country++) {
            for (int what = 0; what <= 8; what++) {
                d.add(x.ofCountry(country, what));
            }
            d.add(x.coins(country, 37));
            d.add(x.bestTrip(country, 0, 1000));
            d.add(x.bestTrip(country, 1, 1000));
            d.add(x.last(country, 0, 10));
            d.add(x.last(country, 1, 10));
        }
        for (int house = 0; house < houses; house++) {
            for (int what = 0; what <= 7; what++) {
                d.add(x.ofHouse(house, what));
            }
        }
        for (int debt = 0; debt < debts; debt++) {
            d.add(x.ofDebt(debt, 4));
            d.add(x.ofDebt(debt, 5));
            d.add(x.ofDebt(debt, 6));
        }
        d.add(x.rest(1000) ? 1 : 0);
        d.add(x.isSound() ? 1 : 0);
        Check.due("digest", x.digest(), d.value);
    }

    private static final class Digest {
        private long value = 5573;

        private void add(long number) {
            value = value * 31 + number;
        }
    }
}
