/** Promises 13, 14 and 20: owe, settle, ofDebt. */
public final class DebtTest {
    public static void main(String[] args) {
        testOwe();
        testDue();
        testSettle();
        testSettleInGold();
        testSettleOnTheRoad();
        testCheaper();
        testOfDebt();
        Check.close("DebtTest");
    }

    private static Twocoin withHouses() {
        Twocoin x = new Twocoin();
        x.country(150, 0, 0, 0);
        x.country(200, 0, 0, 0);
        x.house(0, 1000, 10000);
        x.house(0, 500, 5000);
        x.house(1, 300, 3000);
        return x;
    }

    private static void testOwe() {
        Twocoin x = withHouses();
        Check.noIndex(x, "owe(-1, 0)", () -> x.owe(-1, 0, 0, -1));
        Check.noIndex(x, "owe(0, 3)", () -> x.owe(0, 3, 1, 1));
        Check.noIndex(x, "owe(3, 3)", () -> x.owe(3, 3, 1, 1));
        Check.noIndex(x, "owe(6, 0)", () -> x.owe(6, 0, 1, 1));
        Check.noArgument(x, "owe(0, 0)", () -> x.owe(0, 0, 1, 1));
        Check.noArgument(x, "owe, value 0", () -> x.owe(0, 1, 0, 1));
        Check.noArgument(x, "owe, value 10000", () -> x.owe(0, 1, 10000, 1));
        Check.noArgument(x, "owe, days -1", () -> x.owe(0, 1, 1, -1));
        Check.noArgument(x, "owe, days 1001", () -> x.owe(0, 1, 1, 1001));
        x.pass(100);
        for (int i = 0; i < 10; i++) {
            Check.due("owe", x.owe(i % 3, (i + 1) % 3, i == 9 ? 9999 : i + 1, i == 9 ? 1000 : i), i);
        }
        Check.noState(x, "eleventh debt", () -> x.owe(0, 1, 1, 1));
        Check.noArgument(x, "eleventh debt, value 0", () -> x.owe(0, 1, 0, 1));
        Check.noIndex(x, "eleventh debt, no house", () -> x.owe(0, 3, 1, 1));
        Check.due("whose", x.ofDebt(7, 0), 1);
        Check.due("to whom", x.ofDebt(7, 1), 2);
        Check.due("value", x.ofDebt(7, 2), 8);
        Check.due("day", x.ofDebt(7, 3), 107);
        Check.due("day in 0 days", x.ofDebt(0, 3), 100);
        Check.due("value of the last", x.ofDebt(9, 2), 9999);
        Check.due("day of the last", x.ofDebt(9, 3), 1100);
    }

    private static void testDue() {
        Twocoin x = withHouses();
        x.owe(0, 1, 1099, 5);
        x.owe(0, 1, 99, 0);
        x.owe(0, 1, 9999, 0);
        x.pass(14);
        Check.due("due 9 days behind the day", x.ofDebt(0, 4), 1099);
        Check.due("due 14 days behind the day", x.ofDebt(2, 4), 10098);
        x.pass(1);
        Check.due("due 10 days behind the day", x.ofDebt(0, 4), 1109);
        x.pass(9);
        Check.due("due 19 days behind the day", x.ofDebt(0, 4), 1109);
        x.pass(1);
        Check.due("due 20 days behind the day", x.ofDebt(0, 4), 1119);
        Check.due("no hundredth of 99", x.ofDebt(1, 4), 99);
        for (int i = 0; i < 7; i++) {
            x.pass(400);
        }
        x.pass(175);
        Check.due("due 3000 days behind the day", x.ofDebt(2, 4), 9999 + 300 * 99);
        Check.due("value stays", x.ofDebt(2, 2), 9999);
    }

    private static void testSettle() {
        Twocoin x = withHouses();
        Check.noIndex(x, "settle without debts", () -> x.settle(0, 0));
        x.owe(0, 1, 1000, 0);
        x.owe(0, 1, 9000, 0);
        x.owe(0, 2, 1, 0);
        Check.noIndex(x, "settle(-1)", () -> x.settle(-1, 2));
        Check.noIndex(x, "settle(3)", () -> x.settle(3, 0));
        Check.noIndex(x, "settle(10)", () -> x.settle(10, 0));
        Check.noArgument(x, "settle, metal -1", () -> x.settle(0, -1));
        Check.noArgument(x, "settle, metal 2", () -> x.settle(0, 2));
        Check.due("settle in silver", x.settle(0, 1), 1000);
        Check.due("debtor's silver", x.ofHouse(0, 4), 9000);
        Check.due("creditor's silver", x.ofHouse(1, 4), 6000);
        Check.due("debtor's gold", x.ofHouse(0, 3), 1000);
        Check.due("paid", x.ofDebt(0, 5), 1);
        Check.noState(x, "settle what is paid", () -> x.settle(0, 1));
        Check.noArgument(x, "settle what is paid, metal 2", () -> x.settle(0, 2));
        Check.due("another one is not paid", x.ofDebt(1, 5), 0);
        Check.due("settle with all that is there", x.settle(1, 1), 9000);
        Check.noState(x, "settle with less", () -> x.settle(2, 1));
        Check.due("settle in the other metal: 0.066, rounded up", x.settle(2, 0), 1);
        Check.due("world's silver stays", x.world(1, 1), 18000);
    }

    private static void testSettleInGold() {
        Twocoin x = withHouses();
        x.owe(0, 2, 1500, 0);
        x.owe(0, 2, 1501, 0);
        x.owe(2, 0, 2000, 0);
        x.owe(1, 0, 7500, 0);
        x.owe(1, 0, 1, 0);
        x.pass(20);
        Check.due("1530 at 15.0", x.settle(0, 0), 102);
        Check.due("1531 at 15.0, rounded up", x.settle(1, 0), 103);
        Check.due("2040 at 20.0, where the debtor is", x.settle(2, 0), 102);
        Check.due("debtor's gold", x.ofHouse(2, 3), 300 + 102 + 103 - 102);
        Check.noState(x, "7650 at 15.0 is more gold than the debtor has", () -> x.settle(3, 0));
        x.law(0, 153, 50);
        Check.due("7650 at the law of today", x.settle(3, 0), 500);
        Check.noState(x, "no gold left", () -> x.settle(4, 0));
        Check.due("debtor's silver stays", x.ofHouse(1, 4), 5000);
    }

    private static void testSettleOnTheRoad() {
        Twocoin x = withHouses();
        x.owe(0, 1, 10, 0);
        x.owe(1, 0, 10, 0);
        x.owe(1, 2, 10, 0);
        x.send(0, 1);
        Check.noState(x, "settle of a debtor on the road", () -> x.settle(0, 1));
        Check.noState(x, "settle to a creditor on the road", () -> x.settle(1, 1));
        Check.due("settle of others, each in its country", x.settle(2, 1), 10);
        x.pass(3);
        Check.due("settle behind that", x.settle(0, 0), 1);
        Check.due("settle behind that", x.settle(1, 1), 10);
    }

    private static void testCheaper() {
        Twocoin x = withHouses();
        x.owe(0, 1, 1500, 0);
        x.owe(0, 1, 1, 0);
        x.owe(0, 1, 15, 0);
        Check.due("100 of gold are worth 1550, more than 1500", x.ofDebt(0, 6), 1);
        x.market(150);
        Check.due("both are as much", x.ofDebt(0, 6), 1);
        x.market(149);
        Check.due("100 of gold are worth 1490, less than 1500", x.ofDebt(0, 6), 0);
        Check.due("1 of gold is worth 14, more than 1", x.ofDebt(1, 6), 1);
        Check.due("1 of gold is worth 14.9, rounded down, less than 15", x.ofDebt(2, 6), 0);
        x.law(0, 149, 0);
        Check.due("101 of gold are worth 1504", x.ofDebt(0, 6), 1);
        x.send(0, 1);
        Check.due("none on the road", x.ofDebt(0, 6), -1);
        x.pass(3);
        Check.due("75 of gold, where the debtor is, are worth 1117", x.ofDebt(0, 6), 0);
        x.send(1, 1);
        Check.due("where the creditor is does not matter", x.ofDebt(0, 6), 0);
        x.pass(400);
        Check.due("due 1500 and 40 times 15: 105 of gold are worth 1564", x.ofDebt(0, 6), 0);
        x.settle(0, 1);
        Check.due("none if it is paid", x.ofDebt(0, 6), -1);
    }

    private static void testOfDebt() {
        Twocoin x = withHouses();
        Check.noIndex(x, "ofDebt without debts", () -> x.ofDebt(0, 0));
        x.pass(3);
        x.owe(2, 1, 250, 4);
        Check.noIndex(x, "ofDebt(-1)", () -> x.ofDebt(-1, 7));
        Check.noIndex(x, "ofDebt(1)", () -> x.ofDebt(1, 0));
        Check.noIndex(x, "ofDebt(10)", () -> x.ofDebt(10, 0));
        Check.noArgument(x, "ofDebt, what -1", () -> x.ofDebt(0, -1));
        Check.noArgument(x, "ofDebt, what 7", () -> x.ofDebt(0, 7));
        checkFacts(x, new int[] {2, 1, 250, 7, 250, 0, 0});
        x.pass(24);
        checkFacts(x, new int[] {2, 1, 250, 7, 254, 0, 0});
        x.settle(0, 1);
        checkFacts(x, new int[] {2, 1, 250, 7, 0, 1, -1});
    }

    private static void checkFacts(Twocoin x, int[] want) {
        for (int what = 0; what < want.length; what++) {
            Check.due("ofDebt(0, " + what + ")", x.ofDebt(0, what), want[what]);
        }
    }
}
