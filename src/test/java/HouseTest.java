/** Promises 9 to 12: house, change, send, pass. */
public final class HouseTest {
    public static void main(String[] args) {
        testHouse();
        testChange();
        testChangeRounds();
        testSend();
        testSendBigPurse();
        testPass();
        testWear();
        Check.close("HouseTest");
    }

    private static void testHouse() {
        Twocoin x = new Twocoin();
        Check.noIndex(x, "house without countries", () -> x.house(0, 0, 0));
        x.country(100, 0, 0, 0);
        x.country(100, 0, 0, 0);
        Check.noIndex(x, "house(-1)", () -> x.house(-1, -1, 0));
        Check.noIndex(x, "house(2)", () -> x.house(2, 0, 0));
        Check.noArgument(x, "house, gold -1", () -> x.house(0, -1, 0));
        Check.noArgument(x, "house, gold 100000", () -> x.house(0, 100000, 0));
        Check.noArgument(x, "house, silver -1", () -> x.house(0, 0, -1));
        Check.noArgument(x, "house, silver 100000", () -> x.house(0, 0, 100000));
        for (int i = 0; i < 6; i++) {
            Check.due("house", x.house(i % 2, 99999 - i, i), i);
        }
        Check.noState(x, "seventh house", () -> x.house(0, 0, 0));
        Check.noArgument(x, "seventh house, gold -1", () -> x.house(0, -1, 0));
        Check.noIndex(x, "seventh house, no country", () -> x.house(2, 0, 0));
        Check.due("where", x.ofHouse(5, 0), 1);
        Check.due("gold", x.ofHouse(5, 3), 99994);
        Check.due("silver", x.ofHouse(5, 4), 5);
        Check.due("houses in 0", x.ofCountry(0, 5), 3);
        Check.due("gold that came", x.world(0, 5), 6 * 99999 - 15);
        Check.due("silver that came", x.world(1, 5), 15);
    }

    private static void testChange() {
        Twocoin x = new Twocoin();
        Check.noIndex(x, "change without houses", () -> x.change(0, 0, 1));
        x.country(155, 5, 100, 1542);
        x.country(200, 0, 1000, 20000);
        x.house(0, 200, 1000);
        Check.noIndex(x, "change(-1)", () -> x.change(-1, 2, 1));
        Check.noIndex(x, "change(1)", () -> x.change(1, 0, 1));
        Check.noArgument(x, "change, metal -1", () -> x.change(0, -1, 1));
        Check.noArgument(x, "change, metal 2", () -> x.change(0, 2, 1));
        Check.noArgument(x, "change, grams 0", () -> x.change(0, 0, 0));
        Check.noArgument(x, "change, grams 100000", () -> x.change(0, 0, 100000));
        Check.noState(x, "change of more than the purse", () -> x.change(0, 0, 201));
        Check.noState(x, "change of more than the vault gives", () -> x.change(0, 0, 101));
        Check.due("gold for silver, all that the vault has: 1550 less 7.75, rounded up", x.change(0, 0, 100), 1542);
        Check.due("vault's gold", x.ofCountry(0, 2), 200);
        Check.due("vault's silver", x.ofCountry(0, 3), 0);
        Check.due("purse's gold", x.ofHouse(0, 3), 100);
        Check.due("purse's silver", x.ofHouse(0, 4), 2542);
        Check.due("silver for gold: 64 less 0.32, rounded up", x.change(0, 1, 1000), 63);
        Check.due("vault's gold", x.ofCountry(0, 2), 137);
        Check.due("vault's silver", x.ofCountry(0, 3), 1000);
        Check.due("purse's gold", x.ofHouse(0, 3), 163);
        x.gate(0, 0, false);
        Check.noState(x, "change at a shut gate", () -> x.change(0, 0, 1));
        x.gate(0, 0, true);
        x.send(0, 1);
        Check.noState(x, "change on the road", () -> x.change(0, 1, 10));
        x.pass(3);
        Check.due("change where it came: gold", x.change(0, 0, 100), 2000);
        Check.due("change where it came: all its gold", x.change(0, 0, x.ofHouse(0, 3)), 1220);
        Check.due("the mint there has it", x.ofCountry(1, 2), 1161);
    }

    private static void testChangeRounds() {
        Twocoin x = new Twocoin();
        x.country(199, 1, 0, 1000);
        x.country(200, 50, 0, 1000);
        x.house(0, 100, 100);
        x.house(1, 100, 100);
        Check.due("1 of gold is 19.9, rounded down, less 1", x.change(0, 0, 1), 18);
        Check.due("19 of silver is 0.95, rounded down", x.change(0, 1, 19), 0);
        Check.due("nothing was given, all was brought", x.ofHouse(0, 4), 99);
        Check.due("1 of gold is 20, less just 1", x.change(1, 0, 1), 19);
        Check.due("20 of silver is 1, less 1", x.change(1, 1, 20), 0);
        x.law(1, 200, 0);
        Check.due("20 of silver is 1", x.change(1, 1, 20), 1);
        Check.noState(x, "the vault has no gold left", () -> x.change(1, 1, 20));
        Check.due("39 of gold is 780", x.change(1, 0, 39), 780);
    }

    private static void testSend() {
        Twocoin x = new Twocoin();
        x.country(100, 0, 0, 0);
        Check.noIndex(x, "send without houses", () -> x.send(0, 0));
        x.country(100, 0, 0, 0);
        x.house(0, 1001, 99);
        Check.noIndex(x, "send(-1, 1)", () -> x.send(-1, 1));
        Check.noIndex(x, "send(1, 1)", () -> x.send(1, 1));
        Check.noIndex(x, "send(0, -1)", () -> x.send(0, -1));
        Check.noIndex(x, "send(0, 2)", () -> x.send(0, 2));
        Check.noState(x, "send where it is", () -> x.send(0, 0));
        x.pass(7);
        Check.due("send by a road of 3 days", x.send(0, 1), 10);
        Check.due("where, on the road", x.ofHouse(0, 0), -1);
        Check.due("where to", x.ofHouse(0, 1), 1);
        Check.due("when", x.ofHouse(0, 2), 10);
        Check.due("gold less 10.01, rounded up", x.ofHouse(0, 3), 990);
        Check.due("silver less 0.99, rounded up", x.ofHouse(0, 4), 98);
        Check.due("carriers' gold", x.world(0, 2), 11);
        Check.due("carriers' silver", x.world(1, 2), 1);
        Check.noState(x, "send on the road", () -> x.send(0, 0));
        Check.noState(x, "send to where it goes", () -> x.send(0, 1));
        Check.noIndex(x, "send on the road to no country", () -> x.send(0, 2));
        x.road(0, 1, 30, 100);
        x.pass(2);
        Check.due("on the road still", x.ofHouse(0, 0), -1);
        x.pass(1);
        Check.due("there by the days of when it left", x.ofHouse(0, 0), 1);
        Check.due("goes nowhere", x.ofHouse(0, 1), -1);
        Check.due("is there on no day", x.ofHouse(0, 2), -1);
        Check.due("nothing more was paid", x.ofHouse(0, 3), 990);
        Check.due("send by the road told anew", x.send(0, 0), 40);
        Check.due("gold less 99", x.ofHouse(0, 3), 891);
        Check.due("silver less 9.8, rounded up", x.ofHouse(0, 4), 88);
        Check.due("carriers' silver", x.world(1, 2), 11);
        x.road(0, 1, 30, 0);
        x.pass(30);
        x.send(0, 1);
        Check.due("no freight", x.ofHouse(0, 3), 891);
    }

    /**
     * A purse with over 21,474,836 grams, whose freight is reckoned beyond an int. It just comes up to
     * that within 512 calls: by gold that is bought at a rate of 10.0 and sold at a rate of 20.0.
     */
    private static void testSendBigPurse() {
        Twocoin x = new Twocoin();
        x.country(200, 0, 99999, 99999);
        x.country(200, 0, 0, 0);
        x.road(0, 1, 1, 100);
        x.house(0, 99999, 99999);
        int calls = 4;
        int gold = 99999;
        int silver = 99999;
        int vault = 99999;
        for (int i = 0; i < 22; i++) {
            while (vault < 999980) {
                int mined = Math.min(99999, 999999 - vault);
                vault = x.mine(0, 1, mined);
                calls++;
            }
            if (i >= 2) {
                x.law(0, 100, 0);
                for (int k = 0; k < 10; k++) {
                    gold += x.change(0, 1, 99999);
                }
                x.law(0, 200, 0);
                silver -= 999990;
                vault += 999990;
                calls += 12;
            }
            for (int k = 0; k < (i >= 2 ? 2 : 1); k++) {
                int brought = Math.min(49999, gold);
                int given = x.change(0, 0, brought);
                gold -= brought;
                silver += given;
                vault -= given;
                calls++;
            }
        }
        Check.due("such a purse", silver > 21474836, true);
        Check.due("silver of the purse", x.ofHouse(0, 4), silver);
        x.send(0, 1);
        Check.due("silver less a tenth, rounded up", x.ofHouse(0, 4), (int) (silver * 9L / 10));
        Check.due("isSound", x.isSound(), true);
        Check.due("within 512 calls", calls + 4 <= 512, true);
    }

    private static void testPass() {
        Twocoin x = new Twocoin();
        Check.noArgument(x, "pass(0)", () -> x.pass(0));
        Check.noArgument(x, "pass(-1)", () -> x.pass(-1));
        Check.noArgument(x, "pass(401)", () -> x.pass(401));
        Check.noArgument(x, "pass(highest)", () -> x.pass(Integer.MAX_VALUE));
        for (int i = 1; i <= 7; i++) {
            Check.due("pass(400)", x.pass(400), 400 * i);
        }
        Check.noState(x, "pass behind 3000", () -> x.pass(201));
        Check.noArgument(x, "pass(401) behind 3000", () -> x.pass(401));
        Check.due("pass up to 2999", x.pass(199), 2999);
        x.country(100, 0, 0, 10000);
        x.country(100, 0, 0, 0);
        x.house(0, 0, 0);
        Check.due("a house may be there behind 3000", x.send(0, 1), 3002);
        Check.due("pass up to 3000", x.pass(1), 3000);
        Check.due("day 3000 wears", x.world(1, 4), 1);
        Check.noState(x, "pass behind 3000", () -> x.pass(1));
    }

    private static void testWear() {
        Twocoin x = new Twocoin();
        x.country(100, 0, 99999, 99999);
        x.country(100, 0, 99999, 9999);
        x.country(100, 0, 0, 10000);
        x.house(0, 0, 99999);
        x.pass(29);
        Check.due("no wear on day 29", x.world(1, 4), 0);
        x.pass(1);
        Check.due("wear on day 30", x.world(1, 4), 10);
        Check.due("9.9999, rounded down, of one", x.ofCountry(0, 3), 99990);
        Check.due("0.9999, rounded down, of another", x.ofCountry(1, 3), 9999);
        Check.due("just 1 of the third", x.ofCountry(2, 3), 9999);
        Check.due("gold does not wear", x.world(0, 4), 0);
        Check.due("purses do not wear", x.ofHouse(0, 4), 99999);
        x.pass(29);
        Check.due("no wear on day 59", x.world(1, 4), 10);
        x.pass(61);
        Check.due("wear on days 60, 90 and 120", x.world(1, 4), 37);
        Check.due("wear of what was left", x.ofCountry(0, 3), 99963);
    }
}
