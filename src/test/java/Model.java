import java.util.ArrayList;
import java.util.List;

/**
 * The document once more, in its plainest form and in another shape than the class: for RandomRunsTest,
 * which asks both the same. All numbers are long, so that none of them can wrap around.
 */
public final class Model {
    private static final int[] POUNDS = {20, 10, 5, 2, 1};

    private static final class Land {
        long rate;
        long cut;
        final long[] vault = new long[2];
        final boolean[] open = {true, true};
        final int[] coins = new int[5];
    }

    private static final class Firm {
        int at;
        int to = -1;
        int day = -1;
        final long[] purse = new long[2];
    }

    private static final class Bond {
        int from;
        int to;
        long value;
        int day;
        boolean paid;
    }

    private final List<Land> lands = new ArrayList<>();
    private final List<Firm> firms = new ArrayList<>();
    private final List<Bond> bonds = new ArrayList<>();
    private final int[][] days = new int[4][4];
    private final int[][] freights = new int[4][4];
    private final long[][] gone = new long[3][2];
    private final long[] came = new long[2];
    private int today = 0;
    private long market = 155;

    public Model() {
        for (int i = 0; i < 16; i++) {
            days[i / 4][i % 4] = 3;
            freights[i / 4][i % 4] = 10;
        }
    }

    private static void index(boolean fine) {
        if (!fine) {
            throw new IndexOutOfBoundsException();
        }
    }

    private static void argument(boolean fine) {
        if (!fine) {
            throw new IllegalArgumentException();
        }
    }

    private static void state(boolean fine) {
        if (!fine) {
            throw new IllegalStateException();
        }
    }

    private static boolean in(long value, long low, long high) {
        return low <= value && value <= high;
    }

    private void land(int country) {
        index(in(country, 0, lands.size() - 1));
    }

    private void firm(int house) {
        index(in(house, 0, firms.size() - 1));
    }

    private static long up(long value, long divisor) {
        return value / divisor + (value % divisor == 0 ? 0 : 1);
    }

    public int country(int rate, int cut, int gold, int silver) {
        argument(in(rate, 100, 200) && in(cut, 0, 50) && in(gold, 0, 99999) && in(silver, 0, 99999));
        state(lands.size() < 4);
        Land land = new Land();
        land.rate = rate;
        land.cut = cut;
        land.vault[0] = gold;
        land.vault[1] = silver;
        came[0] += gold;
        came[1] += silver;
        lands.add(land);
        return lands.size() - 1;
    }

    public int law(int country, int rate, int cut) {
        land(country);
        argument(in(rate, 100, 200) && in(cut, 0, 50));
        Land land = lands.get(country);
        long before = land.rate;
        land.rate = rate;
        land.cut = cut;
        return (int) before;
    }

    public boolean gate(int country, int metal, boolean isOpen) {
        land(country);
        argument(in(metal, 0, 1));
        boolean before = lands.get(country).open[metal];
        lands.get(country).open[metal] = isOpen;
        return before;
    }

    public int market(int rate) {
        argument(in(rate, 100, 200));
        long before = market;
        market = rate;
        return (int) before;
    }

    public int road(int one, int other, int newDays, int freight) {
        land(one);
        land(other);
        argument(one != other && in(newDays, 1, 30) && in(freight, 0, 100));
        int before = days[one][other];
        days[one][other] = newDays;
        days[other][one] = newDays;
        freights[one][other] = freight;
        freights[other][one] = freight;
        return before;
    }

    public int mine(int country, int metal, int grams) {
        land(country);
        argument(in(metal, 0, 1) && in(grams, 1, 99999));
        long then = lands.get(country).vault[metal] + grams;
        state(then <= 999999);
        lands.get(country).vault[metal] = then;
        came[metal] += grams;
        return (int) then;
    }

    public int use(int country, int metal, int grams) {
        land(country);
        argument(in(metal, 0, 1) && in(grams, 1, 99999));
        long then = lands.get(country).vault[metal] - grams;
        state(then >= 0);
        lands.get(country).vault[metal] = then;
        gone[1][metal] += grams;
        return (int) then;
    }

    public int house(int country, int gold, int silver) {
        land(country);
        argument(in(gold, 0, 99999) && in(silver, 0, 99999));
        state(firms.size() < 6);
        Firm firm = new Firm();
        firm.at = country;
        firm.purse[0] = gold;
        firm.purse[1] = silver;
        came[0] += gold;
        came[1] += silver;
        firms.add(firm);
        return firms.size() - 1;
    }

    private long mint(int country, int metal, long grams) {
        long rate = lands.get(country).rate;
        long whole = metal == 0 ? grams * rate / 10 : grams * 10 / rate;
        return whole - up(whole * lands.get(country).cut, 1000);
    }

    public int change(int house, int metal, int grams) {
        firm(house);
        argument(in(metal, 0, 1) && in(grams, 1, 99999));
        Firm firm = firms.get(house);
        state(firm.at != -1 && firm.purse[metal] >= grams);
        long given = mint(firm.at, metal, grams);
        Land land = lands.get(firm.at);
        state(land.open[metal] && land.vault[1 - metal] >= given);
        firm.purse[metal] -= grams;
        firm.purse[1 - metal] += given;
        land.vault[metal] += grams;
        land.vault[1 - metal] -= given;
        return (int) given;
    }

    public int send(int house, int country) {
        firm(house);
        land(country);
        Firm firm = firms.get(house);
        state(firm.at != -1 && firm.at != country);
        for (int metal = 0; metal < 2; metal++) {
            long part = up(firm.purse[metal] * freights[firm.at][country], 1000);
            firm.purse[metal] -= part;
            gone[0][metal] += part;
        }
        firm.day = today + days[firm.at][country];
        firm.to = country;
        firm.at = -1;
        return firm.day;
    }

    public int pass(int many) {
        argument(in(many, 1, 400));
        state(today + many <= 3000);
        for (int until = today + many; today < until;) {
            today++;
            for (Firm firm : firms) {
                if (firm.day == today) {
                    firm.at = firm.to;
                    firm.to = -1;
                    firm.day = -1;
                }
            }
            for (Land land : lands) {
                long part = today % 30 == 0 ? land.vault[1] / 100 / 100 : 0;
                land.vault[1] -= part;
                gone[2][1] += part;
            }
        }
        return today;
    }

    public int owe(int from, int to, int value, int inDays) {
        firm(from);
        firm(to);
        argument(from != to && in(value, 1, 9999) && in(inDays, 0, 1000));
        state(bonds.size() < 10);
        Bond bond = new Bond();
        bond.from = from;
        bond.to = to;
        bond.value = value;
        bond.day = today + inDays;
        bonds.add(bond);
        return bonds.size() - 1;
    }

    private long due(Bond bond) {
        long due = bond.value;
        for (int day = bond.day + 10; day <= today; day += 10) {
            due += bond.value / 100;
        }
        return due;
    }

    private long inGold(Bond bond) {
        return up(due(bond) * 10, lands.get(firms.get(bond.from).at).rate);
    }

    public int settle(int debt, int metal) {
        index(in(debt, 0, bonds.size() - 1));
        argument(in(metal, 0, 1));
        Bond bond = bonds.get(debt);
        Firm from = firms.get(bond.from);
        Firm to = firms.get(bond.to);
        state(!bond.paid && from.at != -1 && to.at != -1);
        long grams = metal == 0 ? inGold(bond) : due(bond);
        state(from.purse[metal] >= grams);
        from.purse[metal] -= grams;
        to.purse[metal] += grams;
        bond.paid = true;
        return (int) grams;
    }

    public int till(int country, int kind, int many) {
        land(country);
        index(in(kind, 0, 4));
        argument(in(many, 0, 9));
        int before = lands.get(country).coins[kind];
        lands.get(country).coins[kind] = many;
        return before;
    }

    public int give(int country, int amount) {
        int digits = coins(country, amount);
        state(digits != -1);
        int many = 0;
        for (int kind = 4; kind >= 0; kind--) {
            lands.get(country).coins[kind] -= digits % 10;
            many += digits % 10;
            digits /= 10;
        }
        return many;
    }

    public int coins(int country, int amount) {
        land(country);
        argument(in(amount, 1, 400));
        for (int many = 1; many <= 45; many++) {
            int digits = exactly(lands.get(country).coins, 0, amount, many);
            if (digits != -1) {
                return digits;
            }
        }
        return -1;
    }

    /** The greatest number whose digits are so many coins, from a kind on, of an amount; -1 if there is none. */
    private static int exactly(int[] has, int kind, int amount, int many) {
        if (kind == 5) {
            return amount == 0 && many == 0 ? 0 : -1;
        }
        for (int taken = has[kind]; taken >= 0; taken--) {
            if (taken <= many && taken * POUNDS[kind] <= amount) {
                int rest = exactly(has, kind + 1, amount - taken * POUNDS[kind], many - taken);
                if (rest != -1) {
                    return rest + taken * (int) Math.pow(10, 4 - kind);
                }
            }
        }
        return -1;
    }

    public int ofCountry(int country, int what) {
        land(country);
        argument(in(what, 0, 8));
        Land land = lands.get(country);
        long pounds = 0;
        for (int kind = 0; kind < 5; kind++) {
            pounds += POUNDS[kind] * land.coins[kind];
        }
        long[] facts = {
            land.rate, land.cut, land.vault[0], land.vault[1],
            (land.open[0] ? 1 : 0) | (land.open[1] ? 2 : 0),
            firms.stream().filter(firm -> firm.at == country).count(),
            land.vault[1] + land.vault[0] * market / 10,
            pounds,
            lands.stream().filter(other -> other.rate == land.rate).count(),
        };
        return Math.toIntExact(facts[what]);
    }

    public int ofHouse(int house, int what) {
        firm(house);
        argument(in(what, 0, 7));
        Firm firm = firms.get(house);
        long[] facts = {
            firm.at, firm.to, firm.day, firm.purse[0], firm.purse[1],
            firm.purse[1] + firm.purse[0] * market / 10,
            bonds.stream().filter(bond -> !bond.paid && bond.from == house).count(),
            bonds.stream().filter(bond -> !bond.paid && bond.to == house).count(),
        };
        return Math.toIntExact(facts[what]);
    }

    public int ofDebt(int debt, int what) {
        index(in(debt, 0, bonds.size() - 1));
        argument(in(what, 0, 6));
        Bond bond = bonds.get(debt);
        long cheaper = -1;
        if (!bond.paid && firms.get(bond.from).at != -1) {
            cheaper = inGold(bond) * market / 10 >= due(bond) ? 1 : 0;
        }
        long[] facts = {
            bond.from, bond.to, bond.value, bond.day,
            bond.paid ? 0 : due(bond),
            bond.paid ? 1 : 0,
            cheaper,
        };
        return Math.toIntExact(facts[what]);
    }

    public int world(int metal, int what) {
        argument(in(metal, 0, 1) && in(what, 0, 5));
        long[] facts = {
            lands.stream().mapToLong(land -> land.vault[metal]).sum(),
            firms.stream().mapToLong(firm -> firm.purse[metal]).sum(),
            gone[0][metal], gone[1][metal], gone[2][metal], came[metal],
        };
        return Math.toIntExact(facts[what]);
    }

    public String sign(int country) {
        land(country);
        Land land = lands.get(country);
        return land.rate / 10 + "." + land.rate % 10 + (land.open[0] ? "g" : "-") + (land.open[1] ? "s" : "-")
            + "*".repeat(ofCountry(country, 5));
    }

    public int trip(int from, int over, int metal, int grams) {
        land(from);
        land(over);
        argument(from != over && in(metal, 0, 1) && in(grams, 0, 99999));
        long there = mint(from, metal, grams);
        there -= up(there * freights[from][over], 1000);
        long back = mint(over, 1 - metal, there);
        back -= up(back * freights[over][from], 1000);
        return Math.toIntExact(back);
    }

    public int bestTrip(int from, int metal, int grams) {
        land(from);
        argument(in(metal, 0, 1) && in(grams, 0, 99999));
        int best = -1;
        for (int over = lands.size() - 1; over >= 0; over--) {
            if (over != from && trip(from, over, metal, grams) > grams
                && (best == -1 || trip(from, over, metal, grams) >= trip(from, best, metal, grams))) {
                best = over;
            }
        }
        return best;
    }

    public boolean rest(int grams) {
        argument(in(grams, 0, 99999));
        boolean isRest = true;
        for (int i = 0; i < lands.size() * lands.size() * 2; i++) {
            int from = i / 2 / lands.size();
            int over = i / 2 % lands.size();
            isRest &= from == over || trip(from, over, i % 2, grams) <= grams;
        }
        return isRest;
    }

    public int last(int country, int metal, int grams) {
        land(country);
        argument(in(metal, 0, 1) && in(grams, 1, 99999));
        long left = lands.get(country).vault[metal];
        int day = today;
        while (left >= grams) {
            left -= grams;
            day++;
            if (metal == 1 && day % 30 == 0) {
                left -= left / 10000;
            }
        }
        return day > 3000 ? -1 : day;
    }

    public boolean isSound() {
        return true;
    }

    public long digest() {
        List<Long> numbers = new ArrayList<>(List.of((long) today, market));
        for (int i = 0; i < 12; i++) {
            numbers.add((long) world(i / 6, i % 6));
        }
        for (int country = 0; country < lands.size(); country++) {
            for (int what = 0; what < 9; what++) {
                numbers.add((long) ofCountry(country, what));
            }
            numbers.add((long) coins(country, 37));
            numbers.add((long) bestTrip(country, 0, 1000));
            numbers.add((long) bestTrip(country, 1, 1000));
            numbers.add((long) last(country, 0, 10));
            numbers.add((long) last(country, 1, 10));
        }
        for (int i = 0; i < firms.size() * 8; i++) {
            numbers.add((long) ofHouse(i / 8, i % 8));
        }
        for (int i = 0; i < bonds.size() * 3; i++) {
            numbers.add((long) ofDebt(i / 3, 4 + i % 3));
        }
        numbers.add(rest(1000) ? 1L : 0L);
        numbers.add(1L);
        long d = 5573;
        for (long number : numbers) {
            d = d * 31 + number;
        }
        return d;
    }
}
