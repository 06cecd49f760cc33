/** Promises 18, 19, 21 and 22: ofCountry, ofHouse, world, sign. */
public final class AskTest {
    public static void main(String[] args) {
        testOfCountry();
        testHousesThere();
        testPact();
        testOfHouse();
        testDebtsOfHouse();
        testWorld();
        testSign();
        Check.close("AskTest");
    }

    private static void testOfCountry() {
        Twocoin x = new Twocoin();
        Check.noIndex(x, "ofCountry without countries", () -> x.ofCountry(0, 0));
        x.country(100, 1, 2, 3);
        x.country(177, 33, 4567, 8901);
        Check.noIndex(x, "ofCountry(-1)", () -> x.ofCountry(-1, 9));
        Check.noIndex(x, "ofCountry(2)", () -> x.ofCountry(2, 0));
        Check.noIndex(x, "ofCountry(4)", () -> x.ofCountry(4, 0));
        Check.noArgument(x, "ofCountry, what -1", () -> x.ofCountry(0, -1));
        Check.noArgument(x, "ofCountry, what 9", () -> x.ofCountry(0, 9));
        x.gate(1, 0, false);
        x.house(1, 5, 5);
        x.till(1, 0, 1);
        x.till(1, 1, 2);
        x.till(1, 2, 3);
        x.till(1, 3, 4);
        x.till(1, 4, 5);
        int[] want = {177, 33, 4567, 8901, 2, 1, 70788 + 8901, 68, 1};
        for (int what = 0; what < want.length; what++) {
            Check.due("ofCountry(1, " + what + ")", x.ofCountry(1, what), want[what]);
        }
    }

    private static void testHousesThere() {
        Twocoin x = new Twocoin();
        x.country(150, 0, 0, 0);
        x.country(150, 0, 0, 0);
        x.house(0, 0, 0);
        x.house(0, 0, 0);
        x.house(1, 0, 0);
        Check.due("two are in 0", x.ofCountry(0, 5), 2);
        x.send(1, 1);
        Check.due("one is in 0", x.ofCountry(0, 5), 1);
        Check.due("one is in 1", x.ofCountry(1, 5), 1);
        x.pass(3);
        Check.due("one is in 0", x.ofCountry(0, 5), 1);
        Check.due("two are in 1", x.ofCountry(1, 5), 2);
    }

    private static void testPact() {
        Twocoin x = new Twocoin();
        x.country(150, 0, 0, 0);
        Check.due("a pact of one", x.ofCountry(0, 8), 1);
        x.country(150, 9, 1, 1);
        x.country(151, 0, 0, 0);
        x.country(150, 0, 0, 0);
        Check.due("a pact of three", x.ofCountry(3, 8), 3);
        Check.due("the one beside it", x.ofCountry(2, 8), 1);
        x.law(0, 151, 0);
        Check.due("a pact of two", x.ofCountry(3, 8), 2);
        Check.due("the other pact of two", x.ofCountry(2, 8), 2);
    }

    private static void testOfHouse() {
        Twocoin x = new Twocoin();
        Check.noIndex(x, "ofHouse without houses", () -> x.ofHouse(0, 0));
        x.country(150, 0, 0, 0);
        x.country(150, 0, 0, 0);
        x.country(150, 0, 0, 0);
        x.house(2, 100, 100);
        x.house(1, 333, 444);
        Check.noIndex(x, "ofHouse(-1)", () -> x.ofHouse(-1, 8));
        Check.noIndex(x, "ofHouse(2)", () -> x.ofHouse(2, 0));
        Check.noIndex(x, "ofHouse(6)", () -> x.ofHouse(6, 0));
        Check.noArgument(x, "ofHouse, what -1", () -> x.ofHouse(0, -1));
        Check.noArgument(x, "ofHouse, what 8", () -> x.ofHouse(0, 8));
        checkHouse(x, new int[] {1, -1, -1, 333, 444, 5161 + 444, 0, 0});
        x.pass(5);
        x.road(1, 0, 6, 20);
        x.send(1, 0);
        checkHouse(x, new int[] {-1, 0, 11, 326, 435, 5053 + 435, 0, 0});
        x.pass(5);
        x.market(200);
        checkHouse(x, new int[] {-1, 0, 11, 326, 435, 6520 + 435, 0, 0});
        x.pass(1);
        checkHouse(x, new int[] {0, -1, -1, 326, 435, 6520 + 435, 0, 0});
    }

    private static void checkHouse(Twocoin x, int[] want) {
        for (int what = 0; what < want.length; what++) {
            Check.due("ofHouse(1, " + what + ")", x.ofHouse(1, what), want[what]);
        }
    }

    private static void testDebtsOfHouse() {
        Twocoin x = new Twocoin();
        x.country(150, 0, 0, 0);
        x.house(0, 100, 1000);
        x.house(0, 100, 1000);
        x.house(0, 100, 1000);
        x.owe(0, 1, 10, 0);
        x.owe(0, 2, 10, 5);
        x.owe(1, 0, 10, 5);
        checkDebts(x, new int[] {2, 1, 1, 1, 0, 1});
        x.settle(1, 1);
        checkDebts(x, new int[] {1, 1, 1, 1, 0, 0});
        x.pass(50);
        checkDebts(x, new int[] {1, 1, 1, 1, 0, 0});
        x.settle(0, 0);
        checkDebts(x, new int[] {0, 1, 1, 0, 0, 0});
    }

    private static void checkDebts(Twocoin x, int[] want) {
        for (int house = 0; house < 3; house++) {
            Check.due("debts of " + house, x.ofHouse(house, 6), want[2 * house]);
            Check.due("debts to " + house, x.ofHouse(house, 7), want[2 * house + 1]);
        }
    }

    private static void testWorld() {
        Twocoin x = new Twocoin();
        Check.noArgument(x, "world, metal -1", () -> x.world(-1, 0));
        Check.noArgument(x, "world, metal 2", () -> x.world(2, 0));
        Check.noArgument(x, "world, what -1", () -> x.world(0, -1));
        Check.noArgument(x, "world, what 6", () -> x.world(1, 6));
        x.country(150, 0, 1000, 20000);
        x.country(150, 0, 300, 40000);
        x.house(0, 50, 600);
        x.house(1, 70, 800);
        x.mine(0, 0, 9);
        x.mine(1, 1, 90);
        x.use(1, 0, 4);
        x.use(0, 1, 40);
        x.send(0, 1);
        x.pass(30);
        int[] gold = {1305, 119, 1, 4, 0, 1429};
        int[] silver = {60045, 1394, 6, 40, 5, 61490};
        for (int what = 0; what < 6; what++) {
            Check.due("world(0, " + what + ")", x.world(0, what), gold[what]);
            Check.due("world(1, " + what + ")", x.world(1, what), silver[what]);
        }
        x.send(1, 0);
        Check.due("with houses, one on the road", x.world(1, 1), 1386);
        Check.due("with the carriers", x.world(1, 2), 14);
    }

    private static void testSign() {
        Twocoin x = new Twocoin();
        Check.noIndex(x, "sign without countries", () -> x.sign(0));
        x.country(155, 0, 0, 0);
        x.country(100, 0, 0, 0);
        Check.noIndex(x, "sign(-1)", () -> x.sign(-1));
        Check.noIndex(x, "sign(2)", () -> x.sign(2));
        Check.noIndex(x, "sign(4)", () -> x.sign(4));
        Check.due("sign", x.sign(0), "15.5gs");
        x.gate(0, 0, false);
        Check.due("sign", x.sign(0), "15.5-s");
        x.gate(0, 1, false);
        Check.due("sign", x.sign(0), "15.5--");
        x.gate(0, 0, true);
        Check.due("sign", x.sign(0), "15.5g-");
        x.law(0, 200, 0);
        Check.due("sign", x.sign(0), "20.0g-");
        Check.due("sign", x.sign(1), "10.0gs");
        for (int i = 0; i < 6; i++) {
            x.house(1, 0, 0);
        }
        Check.due("sign", x.sign(1), "10.0gs******");
        x.law(1, 109, 0);
        x.send(3, 0);
        Check.due("sign", x.sign(1), "10.9gs*****");
        Check.due("sign", x.sign(0), "20.0g-");
        x.pass(3);
        Check.due("sign", x.sign(0), "20.0g-*");
    }
}
