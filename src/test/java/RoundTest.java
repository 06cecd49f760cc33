/** Whatever is divided: what comes out even, one less and one more; rounded down where nothing else is said. */
public final class RoundTest {
    public static void main(String[] args) {
        testGoldAtTheMint();
        testSilverAtTheMint();
        testCutOfSilver();
        testCutOfGold();
        testCutOfWhatIsRounded();
        testWorth();
        testWear();
        testFreight();
        testFreightOfEachMetal();
        testTripStepByStep();
        testHundredthOfValue();
        testWholeTensOfDays();
        testDebtInGold();
        testCheaperMetal();
        testSign();
        Check.close("RoundTest");
    }

    /** A house with enough of all at a mint with enough of all. */
    private static Twocoin atMint(int rate, int cut) {
        Twocoin x = new Twocoin();
        x.country(rate, cut, 99999, 99999);
        Worlds.mineUpTo(x, 0, 1, 900000);
        x.house(0, 99999, 99999);
        return x;
    }

    private static void checkGiven(int rate, int cut, int metal, int[] gramsAndGiven) {
        for (int i = 0; i < gramsAndGiven.length; i += 2) {
            int grams = gramsAndGiven[i];
            Twocoin x = atMint(rate, cut);
            int had = x.ofHouse(0, 4 - metal);
            String what = grams + " of metal " + metal + " at " + rate + " less " + cut;
            Check.answers(what, () -> x.change(0, metal, grams), gramsAndGiven[i + 1]);
            Check.due(what + ", into the purse", x.ofHouse(0, 4 - metal) - had, gramsAndGiven[i + 1]);
            Check.due(what + " is what came", x.isSound(), true);
        }
    }

    private static void testGoldAtTheMint() {
        checkGiven(100, 0, 0, new int[] {1, 10, 2, 20, 9999, 99990});
        checkGiven(101, 0, 0, new int[] {1, 10, 9, 90, 10, 101, 11, 111, 19, 191, 20, 202});
        checkGiven(109, 0, 0, new int[] {1, 10, 2, 21, 9, 98, 10, 109});
        checkGiven(155, 0, 0, new int[] {1, 15, 2, 31, 3, 46, 4, 62});
        checkGiven(199, 0, 0, new int[] {1, 19, 9, 179, 10, 199, 11, 218});
        checkGiven(200, 0, 0, new int[] {1, 20, 9999, 199980});
    }

    private static void testSilverAtTheMint() {
        checkGiven(100, 0, 1, new int[] {1, 0, 9, 0, 10, 1, 11, 1, 19, 1, 20, 2, 99999, 9999});
        checkGiven(101, 0, 1, new int[] {10, 0, 11, 1, 20, 1, 21, 2, 101, 10, 102, 10, 100, 9});
        checkGiven(155, 0, 1, new int[] {15, 0, 16, 1, 30, 1, 31, 2, 32, 2, 46, 2, 47, 3});
        checkGiven(200, 0, 1, new int[] {1, 0, 19, 0, 20, 1, 21, 1, 39, 1, 40, 2, 99999, 4999});
    }

    /** 1000 of silver at a cut of 1 are cut by just 1; one gram more is cut by 2. */
    private static void testCutOfSilver() {
        checkGiven(100, 1, 0, new int[] {1, 9, 99, 989, 100, 999, 101, 1008, 200, 1998, 201, 2007});
        checkGiven(100, 50, 0, new int[] {1, 9, 2, 19, 3, 28, 4, 38, 100, 950});
        checkGiven(100, 7, 0, new int[] {100, 993, 101, 1002, 1000, 9930});
    }

    private static void testCutOfGold() {
        checkGiven(100, 1, 1, new int[] {9, 0, 10, 0, 19, 0, 20, 1, 9990, 998, 10000, 999, 10010, 999, 20000, 1998});
        checkGiven(100, 50, 1, new int[] {10, 0, 190, 18, 200, 19, 210, 19, 220, 20, 400, 38});
    }

    /** The cut is that of what is rounded down already. */
    private static void testCutOfWhatIsRounded() {
        // 1000.8 of silver are 1000: a cut of that is 1, of 1000.8 it would be 2
        checkGiven(139, 1, 0, new int[] {72, 999});
        // 20.2 of silver are 20: a cut of that is 1, of 20.2 it would be 2
        checkGiven(101, 50, 0, new int[] {2, 19});
        // 20.05 of gold are 20: a cut of that is 1, of 20.05 it would be 2
        checkGiven(199, 50, 1, new int[] {398, 19, 399, 19});
    }

    private static void testWorth() {
        int[][] facts = {
            {100, 1, 0, 10}, {101, 1, 0, 10}, {101, 9, 0, 90}, {101, 10, 0, 101}, {101, 11, 0, 111},
            {155, 1, 0, 15}, {155, 1, 1, 16}, {155, 2, 0, 31}, {155, 3, 7, 53}, {199, 9, 9, 188},
            {200, 99999, 99999, 2099979}, {199, 99999, 0, 1989980}, {155, 0, 5, 5}, {155, 0, 0, 0},
        };
        for (int[] fact : facts) {
            Twocoin x = new Twocoin();
            x.country(150, 0, fact[1], fact[2]);
            x.house(0, fact[1], fact[2]);
            x.market(fact[0]);
            String what = fact[1] + " of gold and " + fact[2] + " of silver by " + fact[0];
            Check.due(what + " in a vault", x.ofCountry(0, 6), fact[3]);
            Check.due(what + " in a purse", x.ofHouse(0, 5), fact[3]);
        }
    }

    private static void testWear() {
        int[][] gramsAndWorn = {
            {0, 0}, {1, 0}, {9999, 0}, {10000, 1}, {10001, 1}, {19999, 1}, {20000, 2}, {99999, 9}, {999999, 99},
        };
        for (int[] fact : gramsAndWorn) {
            Twocoin x = Worlds.withRates(150);
            Worlds.mineUpTo(x, 0, 1, fact[0]);
            x.pass(30);
            Check.due(fact[0] + " wears", x.world(1, 4), fact[1]);
            Check.due(fact[0] + " is left", x.ofCountry(0, 3), fact[0] - fact[1]);
        }
        Twocoin x = Worlds.withRates(150, 150, 150, 150);
        for (int country = 0; country < 4; country++) {
            x.mine(country, 1, 9999);
        }
        x.pass(30);
        Check.due("each vault is rounded by itself", x.world(1, 4), 0);
    }

    private static Twocoin sent(int freight, int gold, int silver) {
        Twocoin x = Worlds.withRates(150, 150);
        x.house(0, gold, silver);
        x.road(1, 0, 3, freight);
        x.send(0, 1);
        return x;
    }

    private static void testFreight() {
        int[][] facts = {
            {0, 0, 0}, {0, 99999, 0}, {1, 0, 0}, {1, 1, 1}, {1, 999, 1}, {1, 1000, 1}, {1, 1001, 2}, {1, 2000, 2},
            {10, 99, 1}, {10, 100, 1}, {10, 101, 2}, {10, 99999, 1000}, {99, 1000, 99}, {99, 1001, 100},
            {100, 1, 1}, {100, 9, 1}, {100, 10, 1}, {100, 11, 2}, {100, 99999, 10000}, {7, 143, 2}, {7, 142, 1},
        };
        for (int[] fact : facts) {
            String what = "freight of " + fact[0] + " for " + fact[1];
            Check.due(what + ", gold", sent(fact[0], fact[1], 0).world(0, 2), fact[2]);
            Check.due(what + ", silver", sent(fact[0], 0, fact[1]).world(1, 2), fact[2]);
            Check.due(what + ", gold of the purse", sent(fact[0], fact[1], 0).ofHouse(0, 3), fact[1] - fact[2]);
            Check.due(what + ", silver of the purse", sent(fact[0], 0, fact[1]).ofHouse(0, 4), fact[1] - fact[2]);
        }
    }

    private static void testFreightOfEachMetal() {
        Twocoin x = sent(10, 101, 199);
        Check.due("gold is rounded by itself", x.world(0, 2), 2);
        Check.due("silver is rounded by itself", x.world(1, 2), 2);
        Check.due("what the carriers have is what came", x.isSound(), true);
    }

    private static void checkTrip(Twocoin x, String what, int metal, int grams, int want) {
        Check.answers("trip, " + what, () -> x.trip(0, 1, metal, grams), want);
    }

    /** Each division of a trip alone: the others come out even. */
    private static void testTripStepByStep() {
        Twocoin x = Worlds.withRates(101, 100);
        x.road(0, 1, 3, 0);
        checkTrip(x, "90.9 is 90", 0, 9, 9);
        checkTrip(x, "19.8 is 19", 1, 200, 190);
        x.law(1, 200, 0);
        checkTrip(x, "101 of silver are 5.05 of gold", 0, 10, 5);
        x.law(0, 100, 1);
        x.law(1, 100, 0);
        checkTrip(x, "1000 less 1 are 99.9 of gold", 0, 100, 99);
        checkTrip(x, "1010 less 1.01 are 100.8 of gold", 0, 101, 100);
        x.law(0, 100, 0);
        x.law(1, 100, 10);
        checkTrip(x, "1000, 100 less 1", 0, 100, 99);
        checkTrip(x, "1010, 101 less 1.01", 0, 101, 99);
        x.law(1, 100, 0);
        x.road(0, 1, 3, 10);
        checkTrip(x, "1000 less 10 is 990, 99 less 0.99", 0, 100, 98);
        checkTrip(x, "100 less 1 is 99, 990 less 9.9", 1, 1000, 980);
        checkTrip(x, "10 less 0.1 is 9, 0.9 is 0", 0, 1, 0);
    }

    private static Twocoin withDebt(int rate, int value, int days) {
        Twocoin x = Worlds.withRates(rate);
        x.house(0, 99999, 99999);
        x.house(0, 0, 0);
        x.owe(0, 1, value, days);
        return x;
    }

    /** The hundredth is rounded ahead of being taken for each ten days. */
    private static void testHundredthOfValue() {
        int[][] facts = {
            {1, 1, 1}, {99, 99, 99}, {100, 101, 102}, {101, 102, 103}, {150, 151, 152}, {199, 200, 201},
            {200, 202, 204}, {299, 301, 303}, {9999, 10098, 10197},
        };
        for (int[] fact : facts) {
            Twocoin x = withDebt(150, fact[0], 0);
            x.pass(10);
            Check.due("due of " + fact[0] + " 10 days behind", x.ofDebt(0, 4), fact[1]);
            x.pass(10);
            Check.due("due of " + fact[0] + " 20 days behind", x.ofDebt(0, 4), fact[2]);
            Check.answers("is what is paid", () -> x.settle(0, 1), fact[2]);
        }
    }

    private static void testWholeTensOfDays() {
        Twocoin x = withDebt(150, 1000, 15);
        for (int day = 1; day <= 60; day++) {
            x.pass(1);
            int want = day < 25 ? 1000 : day < 35 ? 1010 : day < 45 ? 1020 : day < 55 ? 1030 : 1040;
            Check.due("due on day " + day + " of what was due on day 15", x.ofDebt(0, 4), want);
        }
    }

    private static void testDebtInGold() {
        int[][] rateDueGold = {
            {100, 1, 1}, {100, 9, 1}, {100, 10, 1}, {100, 11, 2}, {200, 1, 1}, {200, 19, 1}, {200, 20, 1},
            {200, 21, 2}, {200, 40, 2}, {155, 31, 2}, {155, 32, 3}, {155, 30, 2}, {199, 199, 10}, {199, 200, 11},
            {199, 198, 10}, {100, 9999, 1000}, {101, 9999, 990}, {101, 101, 10}, {101, 102, 11},
            // 910 are 9 times 101, and 1; 200 are 199, and 1
            {101, 91, 10}, {101, 90, 9}, {199, 20, 2}, {199, 19, 1},
        };
        for (int[] fact : rateDueGold) {
            Twocoin x = withDebt(fact[0], fact[1], 0);
            Check.answers(fact[1] + " in gold at " + fact[0], () -> x.settle(0, 0), fact[2]);
            Check.due("the creditor has it", x.ofHouse(1, 3), fact[2]);
        }
    }

    /** Gold is cheaper by less worth alone; its grams are rounded up, their worth is rounded down. */
    private static void testCheaperMetal() {
        int[][] facts = {
            // rate, market, value, the cheaper metal
            {150, 150, 15, 1}, {150, 149, 15, 0}, {150, 151, 15, 1}, {150, 155, 1500, 1}, {200, 155, 1, 1},
            {200, 155, 14, 1}, {200, 155, 15, 1}, {200, 155, 16, 0}, {200, 155, 20, 0}, {200, 155, 21, 1},
            {200, 155, 31, 1}, {200, 155, 32, 0}, {100, 100, 9, 1}, {100, 100, 10, 1}, {100, 100, 9999, 1},
            {101, 100, 91, 1}, {101, 100, 101, 0}, {101, 100, 102, 1}, {200, 199, 20, 0}, {200, 200, 20, 1},
            {200, 199, 19, 1},
        };
        for (int[] fact : facts) {
            Twocoin x = withDebt(fact[0], fact[2], 0);
            x.market(fact[1]);
            String what = "cheaper metal of " + fact[2] + " at " + fact[0] + " by " + fact[1];
            Check.due(what, x.ofDebt(0, 6), fact[3]);
        }
    }

    private static void testSign() {
        int[] rates = {100, 101, 109, 110, 155, 190, 199, 200};
        String[] signs = {"10.0gs", "10.1gs", "10.9gs", "11.0gs", "15.5gs", "19.0gs", "19.9gs", "20.0gs"};
        for (int i = 0; i < rates.length; i++) {
            Check.due("sign of " + rates[i], Worlds.withRates(rates[i]).sign(0), signs[i]);
        }
    }
}
