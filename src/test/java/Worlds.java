/** Worlds that several tests begin with. */
final class Worlds {
    static final int LOWEST = Integer.MIN_VALUE;
    static final int HIGHEST = Integer.MAX_VALUE;

    private Worlds() {
    }

    /** Just these rates, in order, with no cut and empty vaults. */
    static Twocoin withRates(int... rates) {
        Twocoin x = new Twocoin();
        for (int rate : rates) {
            x.country(rate, 0, 0, 0);
        }
        return x;
    }

    /** 3 countries, 5 houses and 9 debts: one more of each has room. All houses are at home, no debt is paid. */
    static Twocoin roomy() {
        Twocoin x = new Twocoin();
        x.country(150, 5, 40000, 99999);
        x.country(165, 3, 40000, 99999);
        x.country(140, 0, 40000, 99999);
        for (int i = 0; i < 5; i++) {
            x.house(i % 3, 5000, 99999);
        }
        for (int i = 0; i < 9; i++) {
            x.owe(i % 5, (i + 1) % 5, 100 * (i + 1), i);
        }
        for (int kind = 0; kind < 5; kind++) {
            x.till(0, kind, 9);
        }
        return x;
    }

    /** 4 countries, 6 houses and 10 debts: no more have room. */
    static Twocoin full() {
        Twocoin x = roomy();
        x.country(150, 10, 40000, 99999);
        x.house(3, 5000, 99999);
        x.owe(5, 0, 1000, 9);
        x.till(3, 4, 1);
        return x;
    }

    /** Lets days go by in a world on day 0. */
    static Twocoin onDay(Twocoin x, int day) {
        int today = 0;
        while (today < day) {
            today = x.pass(Math.min(400, day - today));
        }
        return x;
    }

    /** Brings a vault up to so many grams by mining. */
    static void mineUpTo(Twocoin x, int country, int metal, int grams) {
        int has = x.ofCountry(country, 2 + metal);
        while (has < grams) {
            has = x.mine(country, metal, Math.min(99999, grams - has));
        }
    }
}
