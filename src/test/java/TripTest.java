/** Promises 23 to 26: trip, bestTrip, rest, last. */
public final class TripTest {
    public static void main(String[] args) {
        testTrip();
        testTripRounds();
        testBestTrip();
        testRest();
        testLast();
        testLastWithWear();
        testLastByLiving();
        Check.close("TripTest");
    }

    private static void testTrip() {
        Twocoin x = new Twocoin();
        x.country(160, 10, 0, 0);
        Check.noIndex(x, "trip with one country", () -> x.trip(0, 1, 0, 1));
        x.country(150, 20, 0, 0);
        x.country(150, 0, 0, 0);
        Check.noIndex(x, "trip(-1, 0)", () -> x.trip(-1, 0, 2, -1));
        Check.noIndex(x, "trip(0, 3)", () -> x.trip(0, 3, 0, 1));
        Check.noIndex(x, "trip(3, 3)", () -> x.trip(3, 3, 0, 1));
        Check.noArgument(x, "trip(1, 1)", () -> x.trip(1, 1, 0, 1));
        Check.noArgument(x, "trip, metal -1", () -> x.trip(0, 1, -1, 1));
        Check.noArgument(x, "trip, metal 2", () -> x.trip(0, 1, 2, 1));
        Check.noArgument(x, "trip, grams -1", () -> x.trip(0, 1, 0, -1));
        Check.noArgument(x, "trip, grams 100000", () -> x.trip(0, 1, 0, 100000));
        String before = Check.stateOf(x);
        // 16000 - 160 = 15840, - 158.4 = 15681; 1045 - 20.9 = 1024, - 10.24 = 1013
        Check.due("trip of gold", x.trip(0, 1, 0, 1000), 1013);
        // 625 - 6.25 = 618, - 6.18 = 611; 9165 - 183.3 = 8981, - 89.81 = 8891
        Check.due("trip of silver", x.trip(0, 1, 1, 10000), 8891);
        Check.due("trip of nothing", x.trip(0, 1, 0, 0), 0);
        Check.due("a trip changes nothing", Check.stateOf(x), before);
        x.road(1, 0, 30, 0);
        // 15840; 1056 - 21.12 = 1034
        Check.due("trip without freight", x.trip(0, 1, 0, 1000), 1034);
        x.gate(0, 0, false);
        x.gate(1, 1, false);
        Check.due("gates and vaults do not matter", x.trip(0, 1, 0, 1000), 1034);
        // 15840, - 158.4 = 15681; 1045, - 10.45 = 1034
        Check.due("trip over another one", x.trip(0, 2, 0, 1000), 1034);
        x.law(0, 200, 0);
        x.law(1, 100, 0);
        Check.due("the greatest trip", x.trip(0, 1, 0, 99999), 199998);
        Check.due("the same in silver", x.trip(1, 0, 1, 99999), 199980);
    }

    private static void testTripRounds() {
        Twocoin x = new Twocoin();
        x.country(199, 1, 0, 0);
        x.country(101, 0, 0, 0);
        x.road(0, 1, 3, 0);
        // 19.9 is 19, less 0.019 is 18; 180 / 101 is 1
        Check.due("every step is rounded", x.trip(0, 1, 0, 1), 1);
        x.road(0, 1, 3, 1);
        // 18 - 0.018 = 17; 170 / 101 = 1, - 0.001 = 0
        Check.due("freight is rounded up", x.trip(0, 1, 0, 1), 0);
    }

    private static void testBestTrip() {
        Twocoin x = new Twocoin();
        x.country(160, 0, 0, 0);
        Check.due("none without others", x.bestTrip(0, 0, 99999), -1);
        x.country(150, 0, 0, 0);
        x.country(140, 0, 0, 0);
        x.country(140, 0, 0, 0);
        Check.noIndex(x, "bestTrip(-1)", () -> x.bestTrip(-1, 2, -1));
        Check.noIndex(x, "bestTrip(4)", () -> x.bestTrip(4, 0, 1));
        Check.noArgument(x, "bestTrip, metal -1", () -> x.bestTrip(0, -1, 1));
        Check.noArgument(x, "bestTrip, metal 2", () -> x.bestTrip(0, 2, 1));
        Check.noArgument(x, "bestTrip, grams -1", () -> x.bestTrip(0, 0, -1));
        Check.noArgument(x, "bestTrip, grams 100000", () -> x.bestTrip(0, 0, 100000));
        Check.due("of two as good, the first", x.bestTrip(0, 0, 1000), 2);
        x.road(0, 2, 3, 11);
        Check.due("the one with less freight", x.bestTrip(0, 0, 1000), 3);
        x.law(1, 130, 0);
        Check.due("the one with the lower rate", x.bestTrip(0, 0, 1000), 1);
        Check.due("silver finds none from the highest rate", x.bestTrip(0, 1, 1000), -1);
        Check.due("silver from the lowest rate", x.bestTrip(1, 1, 1000), 0);
        Check.due("of nothing", x.bestTrip(0, 0, 0), -1);
        Check.due("of 1, which is lost by rounding", x.bestTrip(0, 0, 1), -1);
        Check.due("bestTrip by trip", x.trip(0, 1, 0, 1000) > 1000, true);
        noGainNoTrip();
    }

    private static void noGainNoTrip() {
        Twocoin x = new Twocoin();
        x.country(100, 0, 0, 0);
        x.country(100, 0, 0, 0);
        x.road(0, 1, 3, 0);
        Check.due("a trip without loss", x.trip(0, 1, 0, 1000), 1000);
        Check.due("a gain of 0 is none", x.bestTrip(0, 0, 1000), -1);
        Check.due("a gain of 0 is rest", x.rest(1000), true);
    }

    private static void testRest() {
        Twocoin x = new Twocoin();
        Check.noArgument(x, "rest(-1)", () -> x.rest(-1));
        Check.noArgument(x, "rest(100000)", () -> x.rest(100000));
        x.country(150, 0, 0, 0);
        Check.due("rest of one country", x.rest(99999), true);
        x.country(150, 0, 0, 0);
        x.country(150, 0, 0, 0);
        Check.due("rest of the same rates", x.rest(99999), true);
        x.law(2, 160, 0);
        Check.due("no rest", x.rest(99999), false);
        Check.due("rest of nothing", x.rest(0), true);
        Check.due("rest of 1", x.rest(1), true);
        x.law(2, 150, 0);
        x.law(0, 160, 0);
        Check.due("no rest", x.rest(1000), false);
        x.law(0, 160, 50);
        Check.due("rest by the cut", x.rest(1000), true);
        testRestOfOneMetal();
    }

    /** Some grams have a gain in one metal and none in the other. */
    private static void testRestOfOneMetal() {
        Twocoin x = new Twocoin();
        x.country(200, 0, 0, 0);
        x.country(100, 0, 0, 0);
        x.road(0, 1, 1, 0);
        Check.due("1 of gold is 20 of silver, that is 2 of gold", x.trip(0, 1, 0, 1), 2);
        Check.due("1 of silver is no gold", x.trip(1, 0, 1, 1), 0);
        Check.due("no rest by gold", x.rest(1), false);
        Check.due("gold from the lower rate", x.bestTrip(1, 0, 1), -1);
        x.law(0, 108, 0);
        x.law(1, 107, 0);
        // 10 of gold, that is 108
        Check.due("107 of silver gain 1", x.trip(1, 0, 1, 107), 108);
        // 1155 of silver, that is 107
        Check.due("107 of gold gain nothing", x.trip(0, 1, 0, 107), 107);
        Check.due("no rest by silver", x.rest(107), false);
        Check.due("rest of 106", x.rest(106), true);
    }

    private static void testLast() {
        Twocoin x = new Twocoin();
        Check.noIndex(x, "last without countries", () -> x.last(0, 0, 1));
        x.country(150, 0, 100, 3000);
        Check.noIndex(x, "last(-1)", () -> x.last(-1, 2, 0));
        Check.noIndex(x, "last(1)", () -> x.last(1, 0, 1));
        Check.noArgument(x, "last, metal -1", () -> x.last(0, -1, 1));
        Check.noArgument(x, "last, metal 2", () -> x.last(0, 2, 1));
        Check.noArgument(x, "last, grams 0", () -> x.last(0, 0, 0));
        Check.noArgument(x, "last, grams 100000", () -> x.last(0, 0, 100000));
        String before = Check.stateOf(x);
        Check.due("100 by 101", x.last(0, 0, 101), 0);
        Check.due("100 by 100", x.last(0, 0, 100), 1);
        Check.due("100 by 51", x.last(0, 0, 51), 1);
        Check.due("100 by 50", x.last(0, 0, 50), 2);
        Check.due("100 by 1", x.last(0, 0, 1), 100);
        Check.due("3000 by 1", x.last(0, 1, 1), 3000);
        Check.due("last changes nothing", Check.stateOf(x), before);
        x.mine(0, 1, 1);
        Check.due("3001 by 1: on day 3000 one is left", x.last(0, 1, 1), -1);
        x.pass(7);
        Check.due("100 by 1 from day 7 on", x.last(0, 0, 1), 107);
        Check.due("by more than there is", x.last(0, 0, 99999), 7);
        x.use(0, 1, 8);
        Check.due("2993 by 1 from day 7 on", x.last(0, 1, 1), 3000);
        x.mine(0, 1, 1);
        Check.due("2994 by 1 from day 7 on", x.last(0, 1, 1), -1);
    }

    private static void testLastWithWear() {
        Twocoin x = new Twocoin();
        x.country(150, 0, 31000, 31000);
        // Day 30 begins with 31000 - 30 * 1000 = 1000: no wear
        Check.due("31 times 1000", x.last(0, 1, 1000), 31);
        // Day 30 begins with 31000 - 30 * 500 = 16000, of which 1 is worn: 15999 is 31 times 500, and 499
        Check.due("wear takes a day", x.last(0, 1, 500), 30 + 31);
        Check.due("gold has no wear", x.last(0, 0, 500), 62);
        x.use(0, 1, 31000);
        x.mine(0, 1, 99999);
        x.pass(29);
        x.use(0, 1, 89998);
        // 10001 by 1 today, 10000 as day 30 begins, of which 1 is worn
        Check.due("wear ahead of the drawing", x.last(0, 1, 1), -1);
        Check.due("the wear takes what the drawing needs", x.last(0, 1, 5000), 31);
        Check.due("5001 today leave 5000", x.last(0, 1, 5001), 30);
        x.pass(1);
        Check.due("no wear of today, which has begun", x.ofCountry(0, 3), 10000);
        Check.due("10000 by 10000 on day 30", x.last(0, 1, 10000), 31);
        Check.due("10000 by 5000 on day 30", x.last(0, 1, 5000), 32);
    }

    /** What last() tells is what comes when so much is used, day by day. */
    private static void testLastByLiving() {
        int[] grams = {1234, 1500, 2345, 6789, 99999};
        for (int drawn : grams) {
            for (int metal = 0; metal < 2; metal++) {
                Twocoin x = new Twocoin();
                x.country(150, 0, 99999, 99999);
                x.mine(0, metal, 88888);
                int day = x.pass(13);
                int told = x.last(0, metal, drawn);
                while (x.ofCountry(0, 2 + metal) >= drawn) {
                    x.use(0, metal, drawn);
                    day = x.pass(1);
                }
                Check.due("last of " + drawn + " of metal " + metal, told, day);
            }
        }
    }
}
