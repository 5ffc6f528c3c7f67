/** Promises 13 to 16: worth, yields, moves, callsAt. */
public final class WorthTest {
    public static void main(String[] args) {
        worthOfOnePayment();
        worthOfTwoPayments();
        worthOfMonths();
        worthWithSinking();
        worthOnDays();
        yields();
        yieldsOfNone();
        moves();
        callsAt();
        callsAtWithSinking();
        callsAtOfLittle();
        callsAtOnSunday();
        called();
        bad();
        Check.end();
    }

    // One payment of 100000 in 365 days.
    private static BondDesk onePayment() {
        BondDesk desk = new BondDesk();
        desk.addBond(20260101, 20270101, 0, 1, 0);
        return desk;
    }

    // Payments of 10000 in 365 days, and of 110000 a year later.
    private static BondDesk twoPayments() {
        BondDesk desk = new BondDesk();
        desk.addBond(20260101, 20280101, 1000, 1, 0);
        return desk;
    }

    private static void worth(BondDesk desk, int rate, int due) {
        Check.same("worth(0, " + rate + ")", due, () -> desk.worth(0, rate));
    }

    private static void worthOfOnePayment() {
        BondDesk desk = onePayment();
        worth(desk, 0, 100000);
        worth(desk, 1, 99990);
        worth(desk, 1000, 90909);
        worth(desk, 1001, 90900);
        worth(desk, 1002, 90892);
        worth(desk, 5000, 66666);
    }

    private static void worthOfTwoPayments() {
        BondDesk desk = twoPayments();
        worth(desk, 0, 120000);
        worth(desk, 1000, 9090 + 90909);
        desk.setCall(0, 20260101, 8000);
        worth(desk, 1000, 9090 + 90909);
    }

    // Payments of 5000 in 181 days and of 105000 half a year later, or of 1000 and 101000 in months.
    private static void worthOfMonths() {
        BondDesk desk = new BondDesk();
        desk.addBond(20260101, 20270101, 1000, 2, 0);
        long first = 3650000000000000L / (3650000 + 600 * 181);
        worth(desk, 600, (int) (5000 * first / 1000000000 + 105000 * (first * 20000 / 20600) / 1000000000));
        desk.addBond(20260101, 20260301, 1200, 12, 0);
        long month = 3650000000000000L / (3650000 + 600 * 31);
        Check.same("worth(1, 600)", 1000 * month / 1000000000 + 101000 * (month * 120000 / 120600) / 1000000000,
                () -> desk.worth(1, 600));
    }

    // The first coupon is paid with half of the face, the second one is of half of it.
    private static void worthWithSinking() {
        BondDesk desk = twoPayments();
        desk.setSink(0, 20270101, 5000);
        worth(desk, 0, 10000 + 50000 + 5000 + 50000);
        worth(desk, 1000, 54545 + 45454);
        desk.addBond(20260101, 20290101, 1000, 1, 0);
        desk.setSink(1, 20260101, 5000);
        Check.same("nothing behind all of it", 10000 + 50000 + 5000 + 50000, () -> desk.worth(1, 0));
    }

    private static void worthOnDays() {
        BondDesk desk = twoPayments();
        desk.addBond(20260106, 20270106, 1000, 1, 0);
        desk.addBond(20250110, 20260110, 1000, 1, 0);
        Check.same("worth ahead of the issue", 110000, () -> desk.worth(1, 0));
        desk.pass(9);
        Check.same("worth on the end, a Saturday", 0, () -> desk.worth(2, 0));
        Check.same("it is there", 0, () -> desk.bond(2, 9));
        desk.pass(355);
        worth(desk, 0, 120000);
        worth(desk, 1000, 9997 + 99972);
        desk.pass(1);
        Check.same("the date", 20270101L, () -> desk.count(0));
        worth(desk, 0, 110000);
        worth(desk, 1000, 99999);
        desk.pass(365);
        worth(desk, 0, 0);
        worth(desk, 5000, 0);
    }

    private static void yields(BondDesk desk, int price, int due) {
        Check.same("yields(0, " + price + ")", due, () -> desk.yields(0, price));
    }

    private static void yields() {
        BondDesk desk = onePayment();
        yields(desk, 9090, 1001);
        yields(desk, 10000, 0);
        yields(desk, 10001, -1);
        yields(desk, 30000, -1);
        yields(desk, 9999, 1);
        yields(desk, 1, 5000);
        yields(desk, 6666, 5000);
        yields(desk, 6667, 4999);
        BondDesk two = twoPayments();
        yields(two, 10000, 999);
        yields(two, 12000, 0);
        two.pass(4);
        yields(two, 10000, 999);
        Check.same("accrued", 111, () -> two.accrued(0, 20260105));
    }

    private static void yieldsOfNone() {
        BondDesk desk = new BondDesk();
        desk.addBond(20250105, 20260105, 2000, 1, 0);
        desk.addBond(20250110, 20260110, 2000, 1, 0);
        desk.pass(4);
        yields(desk, 1, -1);
        Check.same("best of none but the second", 1, () -> desk.best(1));
        desk.pass(5);
        Check.same("worth of one that is over, but not gone", 0, () -> desk.worth(1, 0));
        Check.same("yields of one that is over, but not gone", -1, () -> desk.yields(1, 1));
    }

    private static void moves() {
        BondDesk desk = onePayment();
        Check.same("moves(0, 0)", 10, () -> desk.moves(0, 0));
        Check.same("moves(0, 1000)", 9, () -> desk.moves(0, 1000));
        Check.same("moves(0, 1001)", 8, () -> desk.moves(0, 1001));
        Check.same("moves(0, 5000)", 4, () -> desk.moves(0, 5000));
        desk.pass(365);
        Check.same("moves of one that is gone", 0, () -> desk.moves(0, 0));
    }

    private static void callsAt(BondDesk desk, int bond, int due) {
        Check.same("callsAt(" + bond + ")", due, () -> desk.callsAt(bond));
    }

    private static void callsAt() {
        BondDesk desk = twoPayments();
        callsAt(desk, 0, -1);
        desk.setCall(0, 20270101, 10000);
        callsAt(desk, 0, 999);
        desk.setCall(0, 20270102, 10000);
        callsAt(desk, 0, -1);
        desk.setCall(0, 20260101, 11000);
        callsAt(desk, 0, -1);
        desk.setCall(0, 20260101, 10999);
        callsAt(desk, 0, 0);
        desk.setCall(0, 20260101, 8000);
        callsAt(desk, 0, 2000);
        desk.setRate(2000);
        callsAt(desk, 0, 2000);
        desk.setCall(0, 20260101, 0);
        callsAt(desk, 0, -1);
    }

    // The year 2028 has 366 days, so its rates are a bit less than those of 2027.
    private static void callsAtWithSinking() {
        BondDesk desk = new BondDesk();
        desk.addBond(20260101, 20290101, 1000, 1, 0);
        desk.setCall(0, 20280101, 10000);
        callsAt(desk, 0, 997);
        desk.setSink(0, 20280101, 5000);
        callsAt(desk, 0, 997);
        desk.setSink(0, 20270101, 4999);
        callsAt(desk, 0, 474);
        desk.setSink(0, 20270101, 5000);
        callsAt(desk, 0, -1);
        desk.setSink(0, 20270102, 5000);
        desk.setCall(0, 20270101, 10000);
        callsAt(desk, 0, 999);
    }

    // Of a face of 10 cents 11 are paid a year later: more than 10 at a rate of 0 alone.
    private static void callsAtOfLittle() {
        BondDesk desk = new BondDesk();
        desk.addBond(20260101, 20290101, 1000, 1, 0);
        desk.setSink(0, 20270101, 4999);
        desk.pass(365);
        Check.same("what is left", 1, () -> desk.setSink(0, 20280101, 5000));
        desk.setCall(0, 20280101, 10000);
        callsAt(desk, 0, 0);
    }

    private static void callsAtOnSunday() {
        BondDesk desk = new BondDesk();
        desk.addBond(20250110, 20270110, 1000, 1, 0);
        desk.setCall(0, 20160101, 10000);
        desk.pass(10);
        callsAt(desk, 0, 999);
        desk.setRate(1000);
        desk.pass(1);
        Check.same("not called at 1000", 0, () -> desk.bond(0, 9));
        callsAt(desk, 0, -1);
    }

    // Called at 999, and not at 1000; by the rate that is set when it is looked at.
    private static void called() {
        for (int rate = 999; rate <= 1000; rate++) {
            BondDesk desk = new BondDesk();
            desk.addBond(20250110, 20270110, 1000, 1, 0);
            desk.setCall(0, 20160101, 10000);
            desk.setRate(rate == 999 ? 2000 : 0);
            desk.pass(10);
            desk.setRate(rate);
            desk.pass(1);
            Check.same("called at " + rate, rate == 999 ? 2 : 0, () -> desk.bond(0, 9));
            callsAt(desk, 0, -1);
        }
    }

    private static void bad() {
        BondDesk desk = twoPayments();
        for (int bond : new int[] {-1, 1, 10, Integer.MAX_VALUE, Integer.MIN_VALUE}) {
            Check.badIndex(desk, "worth of no bond", () -> desk.worth(bond, -1));
            Check.badIndex(desk, "yields of no bond", () -> desk.yields(bond, 0));
            Check.badIndex(desk, "moves of no bond", () -> desk.moves(bond, 5001));
            Check.badIndex(desk, "callsAt of no bond", () -> desk.callsAt(bond));
        }
        for (int rate : new int[] {-1, 5001, Integer.MAX_VALUE, Integer.MIN_VALUE}) {
            Check.badArgument(desk, "worth at " + rate, () -> desk.worth(0, rate));
            Check.badArgument(desk, "moves at " + rate, () -> desk.moves(0, rate));
        }
        for (int price : new int[] {-1, 0, 30001, Integer.MAX_VALUE, Integer.MIN_VALUE}) {
            Check.badArgument(desk, "yields at " + price, () -> desk.yields(0, price));
        }
    }
}
