/** What happens on which day: wear, arrivals, days that debts are due on, last days; up to day 3000. */
public final class DayTest {
    public static void main(String[] args) {
        testToday();
        testRefusedPass();
        testWearDays();
        testWearOfOneLongPass();
        testWearOfWhatIsThere();
        testWearOnTheLastDay();
        testArrivalOnItsDay();
        testArrivalWithinOnePass();
        testArrivalOnAWearDay();
        testRoadToldAnew();
        testBehindTheLastDay();
        testDueDay();
        testLastIsToday();
        testLastUpToTheLastDay();
        testLastOnTheLastDay();
        testWearAheadOfTheDrawing();
        testNoWearOfToday();
        testWearOfEachThirtyDays();
        testGoldDoesNotWear();
        Check.close("DayTest");
    }

    private static Twocoin withSilver(int grams) {
        Twocoin x = Worlds.withRates(150, 150);
        Worlds.mineUpTo(x, 0, 1, grams);
        return x;
    }

    private static void testToday() {
        Twocoin x = Worlds.full();
        Check.due("today is 0 at first: a road of 3 days", x.send(0, 1), 3);
        Check.due("pass(1)", x.pass(1), 1);
        Check.due("pass(400)", x.pass(400), 401);
        Check.due("pass(399)", x.pass(399), 800);
        Check.due("today is 800: a road of 3 days", x.send(0, 0), 803);
        Check.due("up to 3000", Worlds.onDay(new Twocoin(), 2999).pass(1), 3000);
    }

    private static void testRefusedPass() {
        for (int day = 2600; day <= 3000; day += 100) {
            Twocoin x = Worlds.onDay(Worlds.full(), day);
            x.send(0, 1);
            int left = 3000 - day;
            if (left < 400) {
                Check.noState(x, "pass of " + (left + 1) + " on " + day, () -> x.pass(left + 1));
                Check.noState(x, "pass of 400 on " + day, () -> x.pass(400));
            }
            Check.noArgument(x, "pass of 401 on " + day, () -> x.pass(401));
            Check.noArgument(x, "pass of 0 on " + day, () -> x.pass(0));
            if (left > 0) {
                Check.answers("pass of " + left + " on " + day, () -> x.pass(left), 3000);
            }
        }
    }

    private static void testWearDays() {
        Twocoin x = withSilver(10000);
        for (int day = 1; day <= 130; day++) {
            x.pass(1);
            int has = x.ofCountry(0, 3);
            Check.due("worn on day " + day, has, day % 30 == 0 ? 9999 : 10000);
            if (has == 9999) {
                x.mine(0, 1, 1);
            }
        }
        Check.due("worn on 30, 60, 90 and 120", x.world(1, 4), 4);
        Check.due("isSound", x.isSound(), true);
    }

    /** 20001 wear 2 on day 30, and 1 on day 60, as 19999 are left; 90 days at once are as 90 times one. */
    private static void testWearOfOneLongPass() {
        Twocoin x = withSilver(20001);
        x.pass(90);
        Check.due("2, 1 and 1 are worn", x.world(1, 4), 4);
        Twocoin y = withSilver(999999);
        Twocoin z = withSilver(999999);
        y.pass(400);
        for (int i = 0; i < 400; i++) {
            z.pass(1);
        }
        Check.due("400 days at once, or one by one", y.digest(), z.digest());
    }

    private static void testWearOfWhatIsThere() {
        Twocoin x = withSilver(9999);
        x.pass(29);
        x.mine(0, 1, 1);
        x.house(0, 0, 99999);
        x.pass(1);
        Check.due("what was mined the day before wears", x.world(1, 4), 1);
        x.mine(0, 1, 20001);
        x.country(150, 0, 0, 30000);
        Check.due("what comes on day 30 does not wear on it", x.world(1, 4), 1);
        x.use(0, 1, 20000);
        x.pass(30);
        Check.due("it does on day 60: 10000 and 30000", x.world(1, 4), 5);
        Check.due("purses do not wear", x.ofHouse(0, 4), 99999);
    }

    private static void testWearOnTheLastDay() {
        Twocoin x = Worlds.onDay(withSilver(0), 2999);
        x.mine(0, 1, 10000);
        Check.due("no wear up to day 2999", x.world(1, 4), 0);
        x.pass(1);
        Check.due("wear as day 3000 begins", x.world(1, 4), 1);
    }

    private static void testArrivalOnItsDay() {
        int[] days = {1, 2, 3, 29, 30};
        for (int road : days) {
            Twocoin x = Worlds.withRates(150, 150);
            x.house(0, 0, 0);
            x.road(0, 1, road, 0);
            x.pass(5);
            Check.due("there by a road of " + road, x.send(0, 1), 5 + road);
            Check.due("on the road at once", x.ofHouse(0, 0), -1);
            for (int day = 6; day < 5 + road; day++) {
                x.pass(1);
                Check.due("on the road on day " + day, x.ofHouse(0, 0), -1);
                Check.due("isSound on day " + day, x.isSound(), true);
            }
            x.pass(1);
            Check.due("there on its day", x.ofHouse(0, 0), 1);
            Check.due("isSound on its day", x.isSound(), true);
        }
    }

    private static void testArrivalWithinOnePass() {
        Twocoin x = Worlds.withRates(150, 150, 150);
        for (int house = 0; house < 3; house++) {
            x.house(0, 0, 0);
        }
        x.road(0, 1, 10, 0);
        x.road(0, 2, 30, 0);
        x.send(0, 1);
        x.send(1, 2);
        x.pass(10);
        Check.due("the one is there", x.ofHouse(0, 0), 1);
        Check.due("the other is not", x.ofHouse(1, 0), -1);
        Check.due("the third stays", x.ofHouse(2, 0), 0);
        x.send(2, 2);
        x.pass(400);
        Check.due("all are there", x.sign(1) + x.sign(2), "15.0gs*15.0gs**");
    }

    /** A house that is there on a day of wear keeps what it has. */
    private static void testArrivalOnAWearDay() {
        Twocoin x = withSilver(10000);
        x.house(1, 0, 99999);
        x.road(0, 1, 30, 0);
        Check.due("there on day 30", x.send(0, 0), 30);
        x.pass(30);
        Check.due("is there", x.ofHouse(0, 0), 0);
        Check.due("with all of it", x.ofHouse(0, 4), 99999);
        Check.due("the vault wears alone", x.world(1, 4), 1);
    }

    private static void testRoadToldAnew() {
        Twocoin x = Worlds.withRates(150, 150);
        x.house(0, 1000, 1000);
        x.house(1, 1000, 1000);
        Check.due("there on day 3", x.send(0, 1), 3);
        Check.due("days before", x.road(0, 1, 30, 100), 3);
        Check.due("the day stays", x.ofHouse(0, 2), 3);
        Check.due("the purse stays", x.ofHouse(0, 3), 990);
        Check.due("who leaves behind that goes by it", x.send(1, 0), 30);
        Check.due("and pays it", x.ofHouse(1, 3), 900);
        x.road(1, 0, 1, 0);
        x.pass(1);
        Check.due("a shorter road brings nobody", x.sign(0) + x.sign(1), "15.0gs15.0gs");
        x.pass(2);
        Check.due("the first is there on day 3", x.sign(0) + x.sign(1), "15.0gs15.0gs*");
        x.pass(26);
        Check.due("the second is not there on day 29", x.ofHouse(1, 0), -1);
        x.pass(1);
        Check.due("but on day 30", x.ofHouse(1, 0), 0);
        Check.due("and has what it had", x.ofHouse(1, 3), 900);
    }

    private static void testBehindTheLastDay() {
        Twocoin x = Worlds.onDay(Worlds.full(), 2999);
        x.road(0, 1, 30, 0);
        Check.due("there on day 3029", x.send(0, 1), 3029);
        Check.due("there on day 3002", x.send(1, 2), 3002);
        Check.due("today", x.pass(1), 3000);
        x.road(0, 3, 1, 0);
        Check.due("there on day 3001", x.send(5, 0), 3001);
        Check.noState(x, "nobody is there on day 3001", () -> x.pass(1));
        Check.due("on the road for good", x.ofHouse(5, 0), -1);
        Check.due("isSound", x.isSound(), true);
        Check.due("a debt was due 2991 days ago", x.ofDebt(9, 4), 1000 + 299 * 10);
        Twocoin y = Worlds.onDay(Worlds.roomy(), 3000);
        Check.due("a debt of day 3000", y.owe(0, 1, 9999, 1000), 9);
        Check.due("due on day 4000", y.ofDebt(9, 3), 4000);
        Check.due("due now", y.ofDebt(9, 4), 9999);
    }

    private static void testDueDay() {
        Twocoin x = Worlds.withRates(150);
        x.house(0, 0, 99999);
        x.house(0, 0, 0);
        x.pass(7);
        x.owe(0, 1, 500, 0);
        x.owe(0, 1, 500, 1000);
        Check.due("in 0 days", x.ofDebt(0, 3), 7);
        Check.due("in 1000 days", x.ofDebt(1, 3), 1007);
        x.pass(9);
        Check.due("9 days behind the day", x.ofDebt(0, 4), 500);
        x.pass(1);
        Check.due("10 days behind the day", x.ofDebt(0, 4), 505);
        Check.due("ahead of the day", x.ofDebt(1, 4), 500);
        x.pass(390);
        x.pass(400);
        x.pass(200);
        Check.due("on the day", x.ofDebt(1, 4), 500);
        x.pass(9);
        Check.due("9 days behind that", x.ofDebt(1, 4), 500);
        x.pass(1);
        Check.due("10 days behind that", x.ofDebt(1, 4), 505);
        Check.due("1010 days behind the day of the first", x.ofDebt(0, 4), 500 + 101 * 5);
        Check.due("the first is paid", x.settle(0, 1), 1005);
        Check.due("the second is paid", x.settle(1, 1), 505);
    }

    private static void testLastIsToday() {
        Twocoin x = withSilver(99);
        Check.due("less than that today", x.last(0, 1, 100), 0);
        Check.due("just that today", x.last(0, 1, 99), 1);
        Check.due("nothing of gold", x.last(0, 0, 1), 0);
        x.pass(17);
        Check.due("less than that today", x.last(0, 1, 100), 17);
        Check.due("just that today", x.last(0, 1, 99), 18);
        Check.due("twice, and one is left", x.last(0, 1, 49), 19);
        Check.due("thrice", x.last(0, 1, 33), 20);
        Check.due("nothing of gold", x.last(0, 0, 99999), 17);
        Check.due("an empty vault", x.last(1, 1, 1), 17);
    }

    private static void testLastUpToTheLastDay() {
        Twocoin x = withSilver(2999);
        Check.due("2999 by 1", x.last(0, 1, 1), 2999);
        x.mine(0, 1, 1);
        Check.due("3000 by 1", x.last(0, 1, 1), 3000);
        x.mine(0, 1, 1);
        Check.due("3001 by 1", x.last(0, 1, 1), -1);
        Check.due("3001 by 2", x.last(0, 1, 2), 1500);
        x.mine(0, 0, 99999);
        Check.due("99999 of gold by 33", x.last(0, 0, 33), -1);
        Check.due("99999 of gold by 34", x.last(0, 0, 34), 2941);
        x.pass(1);
        Check.due("3001 by 1 from day 1 on", x.last(0, 1, 1), -1);
        x.use(0, 1, 1);
        Check.due("3000 by 1 from day 1 on", x.last(0, 1, 1), -1);
        x.use(0, 1, 1);
        Check.due("2999 by 1 from day 1 on", x.last(0, 1, 1), 3000);
    }

    private static void testLastOnTheLastDay() {
        Twocoin x = Worlds.onDay(withSilver(0), 2999);
        x.mine(0, 1, 200);
        Check.due("on day 2999, less", x.last(0, 1, 201), 2999);
        Check.due("on day 2999, once", x.last(0, 1, 101), 3000);
        Check.due("on day 2999, twice", x.last(0, 1, 100), -1);
        x.pass(1);
        Check.due("on day 3000, less", x.last(0, 1, 201), 3000);
        Check.due("on day 3000, once", x.last(0, 1, 200), -1);
        Check.due("gold on day 3000", x.last(0, 0, 1), 3000);
    }

    private static void testWearAheadOfTheDrawing() {
        Twocoin x = Worlds.onDay(withSilver(0), 29);
        x.mine(0, 1, 20000);
        Check.due("10000 less 1 on day 30 are less than 10000", x.last(0, 1, 10000), 30);
        Check.due("10001 less 1 on day 30 are more than 9999, then 1 is left", x.last(0, 1, 9999), 31);
        x.mine(0, 1, 1);
        Check.due("10001 less 1 on day 30 are 10000", x.last(0, 1, 10000), 31);
        Check.due("what last tells is not worn", x.ofCountry(0, 3), 20001);
        Check.due("and not in the world", x.world(1, 4), 0);
        Twocoin y = Worlds.onDay(withSilver(0), 2999);
        y.mine(0, 1, 20000);
        Check.due("the wear of day 3000 counts", y.last(0, 1, 10000), 3000);
        y.mine(0, 1, 1);
        Check.due("one more, and day 3000 has enough", y.last(0, 1, 10000), -1);
    }

    private static void testNoWearOfToday() {
        Twocoin x = Worlds.onDay(withSilver(0), 30);
        x.mine(0, 1, 20000);
        Check.due("20000 by 20000 on day 30", x.last(0, 1, 20000), 31);
        Check.due("20000 by 10000 on day 30", x.last(0, 1, 10000), 32);
        Twocoin y = withSilver(20000);
        Check.due("day 0 has no wear", y.last(0, 1, 20000), 1);
        Check.due("day 0 has no wear", y.last(0, 1, 10000), 2);
    }

    /** 99999 by 1500: day 30 begins with 54999, less 5; day 60 with 9994, which does not wear. */
    private static void testWearOfEachThirtyDays() {
        Twocoin x = withSilver(99999);
        Check.due("99999 by 1500", x.last(0, 1, 1500), 66);
        // Day 30 begins with 69999 - 6, day 60 with 39993 - 3, day 90 with 9990
        Check.due("99999 by 1000", x.last(0, 1, 1000), 99);
        // Day 30 begins with 72999 - 7, day 60 with 45992 - 4, day 90 with 18988 - 1: that is 21 by 900, and 87
        Check.due("99999 by 900", x.last(0, 1, 900), 90 + 21);
        // Day 30 begins with 99969 - 9, day 60 with 99930 - 9, and so on: drawn are 3000, worn some 800
        Check.due("99999 by 1", x.last(0, 1, 1), -1);
    }

    private static void testGoldDoesNotWear() {
        Twocoin x = new Twocoin();
        x.country(150, 0, 60000, 60000);
        // Day 30 begins with 30000, less 3 of silver: it is 29 by 1000, and 997
        Check.due("silver by 1000", x.last(0, 1, 1000), 59);
        Check.due("gold by 1000", x.last(0, 0, 1000), 60);
        x.pass(30);
        Check.due("gold of the vault", x.ofCountry(0, 2), 60000);
        Check.due("silver of the vault", x.ofCountry(0, 3), 59994);
        Check.due("gold that is worn", x.world(0, 4), 0);
    }
}
