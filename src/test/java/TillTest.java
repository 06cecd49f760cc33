/** Promises 15 to 17: till, give, coins. */
public final class TillTest {
    private static final int[] POUNDS = {20, 10, 5, 2, 1};

    public static void main(String[] args) {
        testTill();
        testGive();
        testCoins();
        testCoinsOfManyTills();
        Check.close("TillTest");
    }

    private static Twocoin withTill(int digits) {
        Twocoin x = new Twocoin();
        x.country(150, 0, 0, 0);
        fill(x, digits);
        return x;
    }

    private static void fill(Twocoin x, int digits) {
        int left = digits;
        for (int kind = 4; kind >= 0; kind--) {
            x.till(0, kind, left % 10);
            left /= 10;
        }
    }

    private static void testTill() {
        Twocoin x = new Twocoin();
        Check.noIndex(x, "till without countries", () -> x.till(0, 0, 0));
        x.country(150, 0, 0, 0);
        x.country(150, 0, 0, 0);
        Check.noIndex(x, "till(-1)", () -> x.till(-1, 0, 10));
        Check.noIndex(x, "till(2)", () -> x.till(2, 0, 0));
        Check.noIndex(x, "till, kind -1", () -> x.till(0, -1, 10));
        Check.noIndex(x, "till, kind 5", () -> x.till(0, 5, -1));
        Check.noArgument(x, "till, many -1", () -> x.till(0, 0, -1));
        Check.noArgument(x, "till, many 10", () -> x.till(0, 4, 10));
        for (int kind = 0; kind < 5; kind++) {
            Check.due("none at first", x.till(0, kind, 9), 0);
            Check.due("nine before", x.till(0, kind, 0), 9);
            Check.due("none before", x.till(0, kind, 1), 0);
            Check.due("another one's", x.till(1, kind, 0), 0);
        }
        Check.due("one of each", x.ofCountry(0, 7), 38);
        Check.due("another one's", x.ofCountry(1, 7), 0);
    }

    private static void testGive() {
        Twocoin x = withTill(11123);
        Check.noIndex(x, "give(-1)", () -> x.give(-1, 0));
        Check.noIndex(x, "give(1)", () -> x.give(1, 10));
        Check.noArgument(x, "give, amount 0", () -> x.give(0, 0));
        Check.noArgument(x, "give, amount 401", () -> x.give(0, 401));
        Check.noArgument(x, "give, amount lowest", () -> x.give(0, Integer.MIN_VALUE));
        Check.noState(x, "give more than there is", () -> x.give(0, 43));
        Check.due("give 28: 20, 5, 2 and 1", x.give(0, 28), 4);
        Check.due("14 are left", x.ofCountry(0, 7), 14);
        Check.due("10, 2, 1 and 1 are left", x.coins(0, 14), 1012);
        Check.noState(x, "give 5 of 10, 2, 1 and 1", () -> x.give(0, 5));
        Check.due("give all", x.give(0, 14), 4);
        Check.due("nothing is left", x.ofCountry(0, 7), 0);
        Check.noState(x, "give of nothing", () -> x.give(0, 1));
        fill(x, 99999);
        Check.due("give 342", x.give(0, 342), 45);
        fill(x, 99999);
        Check.noState(x, "give 343", () -> x.give(0, 343));
        Check.noState(x, "give 400", () -> x.give(0, 400));
    }

    private static void testCoins() {
        Twocoin x = withTill(99999);
        Check.noIndex(x, "coins(-1)", () -> x.coins(-1, 0));
        Check.noIndex(x, "coins(1)", () -> x.coins(1, 1));
        Check.noArgument(x, "coins, amount 0", () -> x.coins(0, 0));
        Check.noArgument(x, "coins, amount 401", () -> x.coins(0, 401));
        Check.due("coins of 38", x.coins(0, 38), 11111);
        Check.due("coins of 342", x.coins(0, 342), 99999);
        Check.due("coins of 400", x.coins(0, 400), -1);
        Check.due("nothing is taken", x.ofCountry(0, 7), 342);
        Check.due("6 without ones", withTill(130).coins(0, 6), 30);
        Check.due("6 without ones and twos", withTill(900).coins(0, 6), -1);
        Check.due("15 of a ten and a five, not of three fives", withTill(1300).coins(0, 15), 1100);
        Check.due("15 of three fives", withTill(300).coins(0, 15), 300);
        Check.due("21 of a five and eight twos, without the twenty", withTill(10180).coins(0, 21), 180);
        Check.due("8 of four twos, without the five", withTill(140).coins(0, 8), 40);
        Check.due("8 of a five and three ones", withTill(103).coins(0, 8), 103);
        Check.due("30 of a twenty and a ten, not of three tens", withTill(13000).coins(0, 30), 11000);
    }

    /** Against all 100,000 numbers with 5 digits, tried one by one. */
    private static void testCoinsOfManyTills() {
        long seed = 7;
        for (int round = 0; round < 60; round++) {
            seed = seed * 6364136223846793005L + 1442695040888963407L;
            int digits = (int) ((seed >>> 33) % 100000);
            int[] best = bestOfAll(digits);
            Twocoin x = withTill(digits);
            for (int amount = 1; amount <= 400; amount++) {
                Check.due("coins of " + amount + " with " + digits, x.coins(0, amount), best[amount]);
            }
        }
    }

    private static int[] bestOfAll(int digits) {
        int[] best = new int[401];
        int[] fewest = new int[401];
        java.util.Arrays.fill(best, -1);
        for (int tried = 99999; tried > 0; tried--) {
            int pounds = 0;
            int many = 0;
            boolean isThere = true;
            int left = tried;
            int has = digits;
            for (int kind = 4; kind >= 0; kind--) {
                pounds += POUNDS[kind] * (left % 10);
                many += left % 10;
                isThere &= left % 10 <= has % 10;
                left /= 10;
                has /= 10;
            }
            if (isThere && pounds <= 400 && (best[pounds] == -1 || many < fewest[pounds])) {
                best[pounds] = tried;
                fewest[pounds] = many;
            }
        }
        return best;
    }
}
