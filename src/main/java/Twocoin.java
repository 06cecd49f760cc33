/**
 * Countries that pay in gold and silver at rates of their own law, and the houses, debts and tills
 * that live on them. Numbers and words are those of the document; all divisions round down unless
 * a name says otherwise.
 */
public final class Twocoin {
    private static final int NONE = -1;
    private static final int GOLD = 0;
    private static final int SILVER = 1;

    private static final int MOST_COUNTRIES = 4;
    private static final int MOST_HOUSES = 6;
    private static final int MOST_DEBTS = 10;

    private static final int LOWEST_RATE = 100;
    private static final int HIGHEST_RATE = 200;
    private static final int FIRST_MARKET = 155;
    private static final int HIGHEST_CUT = 50;
    private static final int MOST_GRAMS = 99999;
    private static final int MOST_MINED = 999999;

    private static final int FIRST_ROAD_DAYS = 3;
    private static final int MOST_ROAD_DAYS = 30;
    private static final int FIRST_FREIGHT = 10;
    private static final int HIGHEST_FREIGHT = 100;

    private static final int LAST_DAY = 3000;
    private static final int MOST_DAYS_AT_ONCE = 400;
    private static final int WEAR_EVERY = 30;
    private static final int WEAR_PART = 10000;

    private static final int HIGHEST_VALUE = 9999;
    private static final int MOST_DEBT_DAYS = 1000;
    private static final int LATE_DAYS = 10;

    private static final int KINDS = 5;
    private static final int MOST_COINS = 9;
    private static final int MOST_POUNDS = 400;

    private static final int WORLD_FACTS = 6;
    private static final int COUNTRY_FACTS = 9;
    private static final int HOUSE_FACTS = 8;
    private static final int DEBT_FACTS = 7;

    private static final int DIGEST_COINS = 37;
    private static final int DIGEST_TRIP = 1000;
    private static final int DIGEST_DRAW = 10;

    private int today;
    private int market;
    private final Country[] countries;
    private int countryCount;
    private final House[] houses;
    private int houseCount;
    private final Debt[] debts;
    private int debtCount;
    private final Metals carried;
    private final Metals used;
    private final Metals worn;
    private final Metals came;

    public Twocoin() {
        market = FIRST_MARKET;
        countries = new Country[MOST_COUNTRIES];
        houses = new House[MOST_HOUSES];
        debts = new Debt[MOST_DEBTS];
        carried = new Metals(0, 0);
        used = new Metals(0, 0);
        worn = new Metals(0, 0);
        came = new Metals(0, 0);
    }

    // ---- countries

    public int country(int rate, int cut, int gold, int silver)
            throws IllegalArgumentException, IllegalStateException {
        needLaw(rate, cut);
        needRange(gold, 0, MOST_GRAMS);
        needRange(silver, 0, MOST_GRAMS);
        if (countryCount >= countries.length) {
            throw new IllegalStateException("no room for another country");
        }
        int number = countryCount;
        countries[number] = new Country(number, rate, cut, new Metals(gold, silver));
        countryCount = number + 1;
        came.add(GOLD, gold);
        came.add(SILVER, silver);
        return number;
    }

    public int law(int country, int rate, int cut) throws IndexOutOfBoundsException, IllegalArgumentException {
        Country told = countryAt(country);
        needLaw(rate, cut);
        int before = told.rate;
        told.rate = rate;
        told.cut = cut;
        return before;
    }

    public boolean gate(int country, int metal, boolean isOpen)
            throws IndexOutOfBoundsException, IllegalArgumentException {
        Country told = countryAt(country);
        needMetal(metal);
        boolean before = told.isOpenFor(metal);
        told.setOpenFor(metal, isOpen);
        return before;
    }

    public int market(int rate) throws IllegalArgumentException {
        needRange(rate, LOWEST_RATE, HIGHEST_RATE);
        int before = market;
        market = rate;
        return before;
    }

    public int road(int one, int other, int days, int freight)
            throws IndexOutOfBoundsException, IllegalArgumentException {
        Country here = countryAt(one);
        Country there = countryAt(other);
        needDifferent(one, other);
        needRange(days, 1, MOST_ROAD_DAYS);
        needRange(freight, 0, HIGHEST_FREIGHT);
        int before = here.daysTo(there.number);
        here.setRoadTo(there.number, days, freight);
        there.setRoadTo(here.number, days, freight);
        return before;
    }

    public int mine(int country, int metal, int grams)
            throws IndexOutOfBoundsException, IllegalArgumentException, IllegalStateException {
        Metals vault = countryAt(country).vault;
        needMetal(metal);
        needRange(grams, 1, MOST_GRAMS);
        if (vault.of(metal) > MOST_MINED - grams) {
            throw new IllegalStateException("the vault would have too much");
        }
        vault.add(metal, grams);
        came.add(metal, grams);
        return vault.of(metal);
    }

    public int use(int country, int metal, int grams)
            throws IndexOutOfBoundsException, IllegalArgumentException, IllegalStateException {
        Metals vault = countryAt(country).vault;
        needMetal(metal);
        needRange(grams, 1, MOST_GRAMS);
        if (vault.of(metal) < grams) {
            throw new IllegalStateException("the vault has less");
        }
        vault.add(metal, -grams);
        used.add(metal, grams);
        return vault.of(metal);
    }

    // ---- houses

    public int house(int country, int gold, int silver)
            throws IndexOutOfBoundsException, IllegalArgumentException, IllegalStateException {
        Country place = countryAt(country);
        needRange(gold, 0, MOST_GRAMS);
        needRange(silver, 0, MOST_GRAMS);
        if (houseCount >= houses.length) {
            throw new IllegalStateException("no room for another house");
        }
        int number = houseCount;
        houses[number] = new House(number, place, new Metals(gold, silver));
        houseCount = number + 1;
        came.add(GOLD, gold);
        came.add(SILVER, silver);
        return number;
    }

    public int change(int house, int metal, int grams)
            throws IndexOutOfBoundsException, IllegalArgumentException, IllegalStateException {
        House changer = houseAt(house);
        needMetal(metal);
        needRange(grams, 1, MOST_GRAMS);
        Country place = changer.place;
        if (place == null || changer.purse.of(metal) < grams) {
            throw new IllegalStateException("on the road, or has less");
        }
        int given = place.minted(metal, grams);
        int other = otherMetal(metal);
        if (!place.isOpenFor(metal) || place.vault.of(other) < given) {
            throw new IllegalStateException("the mint cannot");
        }
        changer.purse.add(metal, -grams);
        place.vault.add(metal, grams);
        place.vault.add(other, -given);
        changer.purse.add(other, given);
        return given;
    }

    public int send(int house, int country) throws IndexOutOfBoundsException, IllegalStateException {
        House sent = houseAt(house);
        Country goal = countryAt(country);
        Country place = sent.place;
        if (place == null || place == goal) {
            throw new IllegalStateException("on the road, or there already");
        }
        payFreight(sent.purse, GOLD, place.freightTo(goal.number));
        payFreight(sent.purse, SILVER, place.freightTo(goal.number));
        sent.leaveFor(goal, today + place.daysTo(goal.number));
        return sent.arrival;
    }

    private void payFreight(Metals purse, int metal, int freight) {
        int part = thousandthsRoundedUp(purse.of(metal), freight);
        purse.add(metal, -part);
        carried.add(metal, part);
    }

    public int pass(int days) throws IllegalArgumentException, IllegalStateException {
        needRange(days, 1, MOST_DAYS_AT_ONCE);
        if (today > LAST_DAY - days) {
            throw new IllegalStateException("that is behind the last day");
        }
        for (int i = 0; i < days; i++) {
            beginDay();
        }
        return today;
    }

    private void beginDay() {
        today++;
        for (House house : houses) {
            if (house != null) {
                house.arriveBy(today);
            }
        }
        if (isWearDay(today)) {
            wearVaults();
        }
    }

    private void wearVaults() {
        for (Country country : countries) {
            if (country != null) {
                int part = country.vault.silver / WEAR_PART;
                country.vault.add(SILVER, -part);
                worn.add(SILVER, part);
            }
        }
    }

    // ---- debts

    public int owe(int from, int to, int value, int days)
            throws IndexOutOfBoundsException, IllegalArgumentException, IllegalStateException {
        House debtor = houseAt(from);
        House creditor = houseAt(to);
        needDifferent(from, to);
        needRange(value, 1, HIGHEST_VALUE);
        needRange(days, 0, MOST_DEBT_DAYS);
        if (debtCount >= debts.length) {
            throw new IllegalStateException("no room for another debt");
        }
        int number = debtCount;
        debts[number] = new Debt(debtor, creditor, value, today + days);
        debtCount = number + 1;
        return number;
    }

    public int settle(int debt, int metal)
            throws IndexOutOfBoundsException, IllegalArgumentException, IllegalStateException {
        Debt settled = debtAt(debt);
        needMetal(metal);
        Country place = settled.debtor.place;
        if (settled.isPaid || place == null || settled.creditor.place == null) {
            throw new IllegalStateException("paid, or one of both is on the road");
        }
        int due = settled.dueOn(today);
        int grams = metal == GOLD ? place.goldFor(due) : due;
        if (settled.debtor.purse.of(metal) < grams) {
            throw new IllegalStateException("the debtor has less");
        }
        settled.debtor.purse.add(metal, -grams);
        settled.creditor.purse.add(metal, grams);
        settled.isPaid = true;
        return grams;
    }

    // ---- tills

    public int till(int country, int kind, int many) throws IndexOutOfBoundsException, IllegalArgumentException {
        Till told = countryAt(country).till;
        if (kind < 0 || kind >= KINDS) {
            throw new IndexOutOfBoundsException("no such kind");
        }
        needRange(many, 0, MOST_COINS);
        int before = told.manyOf(kind);
        told.setMany(kind, many);
        return before;
    }

    public int give(int country, int amount)
            throws IndexOutOfBoundsException, IllegalArgumentException, IllegalStateException {
        Till giver = countryAt(country).till;
        needRange(amount, 1, MOST_POUNDS);
        int digits = giver.fewestFor(amount);
        if (digits == NONE) {
            throw new IllegalStateException("the till cannot give that");
        }
        return giver.takeOut(digits);
    }

    public int coins(int country, int amount) throws IndexOutOfBoundsException, IllegalArgumentException {
        Till asked = countryAt(country).till;
        needRange(amount, 1, MOST_POUNDS);
        return asked.fewestFor(amount);
    }

    // ---- what is asked

    public int ofCountry(int country, int what) throws IndexOutOfBoundsException, IllegalArgumentException {
        Country asked = countryAt(country);
        needRange(what, 0, COUNTRY_FACTS - 1);
        return countryFact(asked, what);
    }

    private int countryFact(Country country, int what) {
        switch (what) {
            case 0:
                return country.rate;
            case 1:
                return country.cut;
            case 2:
                return country.vault.gold;
            case 3:
                return country.vault.silver;
            case 4:
                return country.openSet();
            case 5:
                return housesIn(country);
            case 6:
                return country.vault.worth(market);
            case 7:
                return country.till.pounds();
            default:
                return countriesWithRate(country.rate);
        }
    }

    private int housesIn(Country country) {
        int many = 0;
        for (House house : houses) {
            if (house != null && house.place == country) {
                many++;
            }
        }
        return many;
    }

    private int countriesWithRate(int rate) {
        int many = 0;
        for (Country country : countries) {
            if (country != null && country.rate == rate) {
                many++;
            }
        }
        return many;
    }

    public int ofHouse(int house, int what) throws IndexOutOfBoundsException, IllegalArgumentException {
        House asked = houseAt(house);
        needRange(what, 0, HOUSE_FACTS - 1);
        return houseFact(asked, what);
    }

    private int houseFact(House house, int what) {
        switch (what) {
            case 0:
                return numberOf(house.place);
            case 1:
                return numberOf(house.goal);
            case 2:
                return house.arrival;
            case 3:
                return house.purse.gold;
            case 4:
                return house.purse.silver;
            case 5:
                return house.purse.worth(market);
            case 6:
                return unpaidDebtsOf(house);
            default:
                return unpaidDebtsTo(house);
        }
    }

    private static int numberOf(Country country) {
        return country == null ? NONE : country.number;
    }

    private int unpaidDebtsOf(House house) {
        int many = 0;
        for (Debt debt : debts) {
            if (debt != null && !debt.isPaid && debt.debtor == house) {
                many++;
            }
        }
        return many;
    }

    private int unpaidDebtsTo(House house) {
        int many = 0;
        for (Debt debt : debts) {
            if (debt != null && !debt.isPaid && debt.creditor == house) {
                many++;
            }
        }
        return many;
    }

    public int ofDebt(int debt, int what) throws IndexOutOfBoundsException, IllegalArgumentException {
        Debt asked = debtAt(debt);
        needRange(what, 0, DEBT_FACTS - 1);
        return debtFact(asked, what);
    }

    private int debtFact(Debt debt, int what) {
        switch (what) {
            case 0:
                return debt.debtor.number;
            case 1:
                return debt.creditor.number;
            case 2:
                return debt.value;
            case 3:
                return debt.day;
            case 4:
                return debt.isPaid ? 0 : debt.dueOn(today);
            case 5:
                return debt.isPaid ? 1 : 0;
            default:
                return cheaperMetal(debt);
        }
    }

    private int cheaperMetal(Debt debt) {
        Country place = debt.debtor.place;
        if (debt.isPaid || place == null) {
            return NONE;
        }
        int due = debt.dueOn(today);
        return worthOf(place.goldFor(due), 0, market) < due ? GOLD : SILVER;
    }

    public int world(int metal, int what) throws IllegalArgumentException {
        needMetal(metal);
        needRange(what, 0, WORLD_FACTS - 1);
        return worldFact(metal, what);
    }

    private int worldFact(int metal, int what) {
        switch (what) {
            case 0:
                return inVaults(metal);
            case 1:
                return inPurses(metal);
            case 2:
                return carried.of(metal);
            case 3:
                return used.of(metal);
            case 4:
                return worn.of(metal);
            default:
                return came.of(metal);
        }
    }

    private int inVaults(int metal) {
        int grams = 0;
        for (Country country : countries) {
            if (country != null) {
                grams += country.vault.of(metal);
            }
        }
        return grams;
    }

    private int inPurses(int metal) {
        int grams = 0;
        for (House house : houses) {
            if (house != null) {
                grams += house.purse.of(metal);
            }
        }
        return grams;
    }

    public String sign(int country) throws IndexOutOfBoundsException {
        Country asked = countryAt(country);
        StringBuilder signs = new StringBuilder();
        signs.append(asked.rate / 10).append('.').append(asked.rate % 10);
        signs.append(asked.isOpenFor(GOLD) ? 'g' : '-');
        signs.append(asked.isOpenFor(SILVER) ? 's' : '-');
        int stars = housesIn(asked);
        for (int i = 0; i < stars; i++) {
            signs.append('*');
        }
        return signs.toString();
    }

    // ---- what would be

    public int trip(int from, int over, int metal, int grams)
            throws IndexOutOfBoundsException, IllegalArgumentException {
        Country here = countryAt(from);
        Country there = countryAt(over);
        needDifferent(from, over);
        needMetal(metal);
        needRange(grams, 0, MOST_GRAMS);
        return comesOfTrip(here, there, metal, grams);
    }

    private static int comesOfTrip(Country here, Country there, int metal, int grams) {
        int freight = here.freightTo(there.number);
        int changed = here.minted(metal, grams);
        int arrived = changed - thousandthsRoundedUp(changed, freight);
        int changedBack = there.minted(otherMetal(metal), arrived);
        return changedBack - thousandthsRoundedUp(changedBack, freight);
    }

    public int bestTrip(int from, int metal, int grams) throws IndexOutOfBoundsException, IllegalArgumentException {
        Country here = countryAt(from);
        needMetal(metal);
        needRange(grams, 0, MOST_GRAMS);
        return bestOver(here, metal, grams);
    }

    private int bestOver(Country here, int metal, int grams) {
        int best = NONE;
        int most = grams;
        for (Country there : countries) {
            if (there != null && there != here) {
                int comes = comesOfTrip(here, there, metal, grams);
                if (comes > most) {
                    most = comes;
                    best = there.number;
                }
            }
        }
        return best;
    }

    public boolean rest(int grams) throws IllegalArgumentException {
        needRange(grams, 0, MOST_GRAMS);
        return isRest(grams);
    }

    private boolean isRest(int grams) {
        for (Country here : countries) {
            if (here != null && (bestOver(here, GOLD, grams) != NONE || bestOver(here, SILVER, grams) != NONE)) {
                return false;
            }
        }
        return true;
    }

    public int last(int country, int metal, int grams) throws IndexOutOfBoundsException, IllegalArgumentException {
        Country asked = countryAt(country);
        needMetal(metal);
        needRange(grams, 1, MOST_GRAMS);
        return firstDayShort(asked.vault, metal, grams);
    }

    private int firstDayShort(Metals vault, int metal, int grams) {
        int left = vault.of(metal);
        for (int day = today; day <= LAST_DAY; day++) {
            if (metal == SILVER && day > today && isWearDay(day)) {
                left -= left / WEAR_PART;
            }
            if (left < grams) {
                return day;
            }
            left -= grams;
        }
        return NONE;
    }

    public boolean isSound() {
        return isKept(GOLD) && isKept(SILVER) && areCountriesSound() && areHousesSound() && areRoadsTheSame();
    }

    private boolean isKept(int metal) {
        int there = inVaults(metal) + inPurses(metal) + carried.of(metal) + used.of(metal) + worn.of(metal);
        return there == came.of(metal);
    }

    private boolean areCountriesSound() {
        for (Country country : countries) {
            if (country != null && (country.vault.isBelowZero() || country.till.isBelowZero())) {
                return false;
            }
        }
        return true;
    }

    private boolean areHousesSound() {
        for (House house : houses) {
            if (house != null && (house.purse.isBelowZero() || house.isLateOn(today))) {
                return false;
            }
        }
        return true;
    }

    private boolean areRoadsTheSame() {
        for (Country one : countries) {
            for (Country other : countries) {
                if (one != null && other != null && !hasSameRoads(one, other)) {
                    return false;
                }
            }
        }
        return true;
    }

    private static boolean hasSameRoads(Country one, Country other) {
        return one.daysTo(other.number) == other.daysTo(one.number)
            && one.freightTo(other.number) == other.freightTo(one.number);
    }

    public long digest() {
        long d = 5573;
        d = d * 31 + today;
        d = d * 31 + market;
        d = digestWorld(d, GOLD);
        d = digestWorld(d, SILVER);
        for (Country country : countries) {
            if (country != null) {
                d = digestCountry(d, country);
            }
        }
        for (House house : houses) {
            if (house != null) {
                d = digestHouse(d, house);
            }
        }
        for (Debt debt : debts) {
            if (debt != null) {
                d = digestDebt(d, debt);
            }
        }
        d = d * 31 + (isRest(DIGEST_TRIP) ? 1 : 0);
        d = d * 31 + (isSound() ? 1 : 0);
        return d;
    }

    private long digestWorld(long before, int metal) {
        long d = before;
        for (int what = 0; what < WORLD_FACTS; what++) {
            d = d * 31 + worldFact(metal, what);
        }
        return d;
    }

    private long digestCountry(long before, Country country) {
        long d = before;
        for (int what = 0; what < COUNTRY_FACTS; what++) {
            d = d * 31 + countryFact(country, what);
        }
        d = d * 31 + country.till.fewestFor(DIGEST_COINS);
        d = d * 31 + bestOver(country, GOLD, DIGEST_TRIP);
        d = d * 31 + bestOver(country, SILVER, DIGEST_TRIP);
        d = d * 31 + firstDayShort(country.vault, GOLD, DIGEST_DRAW);
        d = d * 31 + firstDayShort(country.vault, SILVER, DIGEST_DRAW);
        return d;
    }

    private long digestHouse(long before, House house) {
        long d = before;
        for (int what = 0; what < HOUSE_FACTS; what++) {
            d = d * 31 + houseFact(house, what);
        }
        return d;
    }

    private long digestDebt(long before, Debt debt) {
        long d = before;
        for (int what = 4; what < DEBT_FACTS; what++) {
            d = d * 31 + debtFact(debt, what);
        }
        return d;
    }

    // ---- what a call is tested for

    private Country countryAt(int number) {
        if (number < 0 || number >= countries.length || countries[number] == null) {
            throw new IndexOutOfBoundsException("no such country");
        }
        return countries[number];
    }

    private House houseAt(int number) {
        if (number < 0 || number >= houses.length || houses[number] == null) {
            throw new IndexOutOfBoundsException("no such house");
        }
        return houses[number];
    }

    private Debt debtAt(int number) {
        if (number < 0 || number >= debts.length || debts[number] == null) {
            throw new IndexOutOfBoundsException("no such debt");
        }
        return debts[number];
    }

    private static void needRange(int value, int low, int high) {
        if (value < low || value > high) {
            throw new IllegalArgumentException("a number is out of its range");
        }
    }

    private static void needMetal(int metal) {
        if (metal != GOLD && metal != SILVER) {
            throw new IllegalArgumentException("no such metal");
        }
    }

    private static void needLaw(int rate, int cut) {
        needRange(rate, LOWEST_RATE, HIGHEST_RATE);
        needRange(cut, 0, HIGHEST_CUT);
    }

    private static void needDifferent(int one, int other) {
        if (one == other) {
            throw new IllegalArgumentException("both are the same");
        }
    }

    // ---- what is reckoned

    private static int otherMetal(int metal) {
        return metal == GOLD ? SILVER : GOLD;
    }

    private static boolean isWearDay(int day) {
        return day % WEAR_EVERY == 0;
    }

    // Products are reckoned in long: a hundred times what a purse can gather in 512 calls is more than an int holds.
    private static int worthOf(int gold, int silver, int rate) {
        return (int) (silver + (long) gold * rate / 10);
    }

    private static int thousandthsRoundedUp(int grams, int thousandths) {
        return (int) (((long) grams * thousandths + 999) / 1000);
    }

    /** Grams of both metals, wherever they are. */
    private static final class Metals {
        private int gold;
        private int silver;

        private Metals(int gold, int silver) {
            this.gold = gold;
            this.silver = silver;
        }

        private int of(int metal) {
            return metal == GOLD ? gold : silver;
        }

        private void add(int metal, int grams) {
            if (metal == GOLD) {
                gold += grams;
            } else {
                silver += grams;
            }
        }

        private int worth(int rate) {
            return worthOf(gold, silver, rate);
        }

        private boolean isBelowZero() {
            return gold < 0 || silver < 0;
        }
    }

    /** A country with its law, its mint, its till, and the roads that leave it. */
    private static final class Country {
        private final int number;
        private int rate;
        private int cut;
        private final Metals vault;
        private boolean isGoldOpen;
        private boolean isSilverOpen;
        private final int[] roadDays;
        private final int[] roadFreights;
        private final Till till;

        private Country(int number, int rate, int cut, Metals vault) {
            this.number = number;
            this.rate = rate;
            this.cut = cut;
            this.vault = vault;
            isGoldOpen = true;
            isSilverOpen = true;
            roadDays = new int[MOST_COUNTRIES];
            roadFreights = new int[MOST_COUNTRIES];
            for (int i = 0; i < MOST_COUNTRIES; i++) {
                roadDays[i] = FIRST_ROAD_DAYS;
                roadFreights[i] = FIRST_FREIGHT;
            }
            till = new Till();
        }

        private boolean isOpenFor(int metal) {
            return metal == GOLD ? isGoldOpen : isSilverOpen;
        }

        private void setOpenFor(int metal, boolean isOpen) {
            if (metal == GOLD) {
                isGoldOpen = isOpen;
            } else {
                isSilverOpen = isOpen;
            }
        }

        private int openSet() {
            return (isGoldOpen ? 1 : 0) + (isSilverOpen ? 2 : 0);
        }

        /** What the mint gives for grams of a metal, in the other one. */
        private int minted(int metal, int grams) {
            int whole = metal == GOLD ? silverFor(grams) : goldOf(grams);
            return whole - thousandthsRoundedUp(whole, cut);
        }

        private int silverFor(int gold) {
            return (int) ((long) gold * rate / 10);
        }

        private int goldOf(int silver) {
            return rate < 1 ? 0 : (int) ((long) silver * 10 / rate);
        }

        /** How much gold pays so much silver, rounded up. */
        private int goldFor(int silver) {
            return rate < 1 ? 0 : (int) (((long) silver * 10 + rate - 1) / rate);
        }

        private int daysTo(int other) {
            return other >= 0 && other < roadDays.length ? roadDays[other] : FIRST_ROAD_DAYS;
        }

        private int freightTo(int other) {
            return other >= 0 && other < roadFreights.length ? roadFreights[other] : FIRST_FREIGHT;
        }

        private void setRoadTo(int other, int days, int freight) {
            if (other >= 0 && other < roadDays.length && other < roadFreights.length) {
                roadDays[other] = days;
                roadFreights[other] = freight;
            }
        }
    }

    /** A house: in a place, or on the road to a goal, where it is there on the day of its arrival. */
    private static final class House {
        private final int number;
        private final Metals purse;
        private Country place;
        private Country goal;
        private int arrival;

        private House(int number, Country place, Metals purse) {
            this.number = number;
            this.place = place;
            this.purse = purse;
            goal = null;
            arrival = NONE;
        }

        private void leaveFor(Country country, int day) {
            place = null;
            goal = country;
            arrival = day;
        }

        private void arriveBy(int day) {
            if (goal != null && arrival <= day) {
                place = goal;
                goal = null;
                arrival = NONE;
            }
        }

        private boolean isLateOn(int day) {
            return goal != null && arrival <= day;
        }
    }

    /** A debt of one house to another one, due on a day. */
    private static final class Debt {
        private final House debtor;
        private final House creditor;
        private final int value;
        private final int day;
        private boolean isPaid;

        private Debt(House debtor, House creditor, int value, int day) {
            this.debtor = debtor;
            this.creditor = creditor;
            this.value = value;
            this.day = day;
            isPaid = false;
        }

        private int dueOn(int today) {
            int lateTens = today > day ? (today - day) / LATE_DAYS : 0;
            return value + value / 100 * lateTens;
        }
    }

    /** A till with coins of 20, 10, 5, 2 and 1 pound. */
    private static final class Till {
        private final int[] many;

        private Till() {
            many = new int[KINDS];
        }

        private int manyOf(int kind) {
            return kind >= 0 && kind < many.length ? many[kind] : 0;
        }

        private void setMany(int kind, int coins) {
            if (kind >= 0 && kind < many.length) {
                many[kind] = coins;
            }
        }

        private int pounds() {
            return 20 * manyOf(0) + 10 * manyOf(1) + 5 * manyOf(2) + 2 * manyOf(3) + manyOf(4);
        }

        /**
         * The change for an amount as a number with a digit for each kind, or NONE. Tried from the
         * most of each kind downwards, so that the first of several with as few coins stays; behind
         * the fives no choice is left, since two coins of 1 never beat one of 2.
         */
        private int fewestFor(int amount) {
            int best = NONE;
            int fewest = KINDS * MOST_COINS + 1;
            for (int a = Math.min(manyOf(0), amount / 20); a >= 0; a--) {
                int behindA = amount - 20 * a;
                for (int b = Math.min(manyOf(1), behindA / 10); b >= 0; b--) {
                    int behindB = behindA - 10 * b;
                    for (int c = Math.min(manyOf(2), behindB / 5); c >= 0; c--) {
                        int behindC = behindB - 5 * c;
                        int d = Math.min(manyOf(3), behindC / 2);
                        int e = behindC - 2 * d;
                        if (e <= manyOf(4) && a + b + c + d + e < fewest) {
                            fewest = a + b + c + d + e;
                            best = a * 10000 + b * 1000 + c * 100 + d * 10 + e;
                        }
                    }
                }
            }
            return best;
        }

        /** Takes the coins of such a number out; returns how many they are. */
        private int takeOut(int digits) {
            int all = 0;
            int left = digits;
            for (int kind = KINDS - 1; kind >= 0; kind--) {
                int coins = left % 10;
                setMany(kind, manyOf(kind) - coins);
                all += coins;
                left /= 10;
            }
            return all;
        }

        private boolean isBelowZero() {
            for (int coins : many) {
                if (coins < 0) {
                    return true;
                }
            }
            return false;
        }
    }
}
