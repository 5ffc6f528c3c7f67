import java.util.function.Supplier;

/** The boundary cases of the terms' part 3 and of promises 13 to 16, each sentence in a test of its own. */
public final class WorthEdgesTest {
    private static final int[] NO_YIELDS = {-1, 5001, Integer.MAX_VALUE, Integer.MIN_VALUE};

    public static void main(String[] args) {
        Edges.run(WorthEdgesTest.class);
    }

    private static void worth(BondDesk desk, int rate, int due) {
        Check.same("worth(0, " + rate + ") on " + desk.count(0), due, () -> desk.worth(0, rate));
    }

    private static void yields(BondDesk desk, int price, int due) {
        Check.same("yields(0, " + price + ") on " + desk.count(0), due, () -> desk.yields(0, price));
    }

    private static void callsAt(BondDesk desk, int due) {
        Check.same("callsAt(0) on " + desk.count(0), due, () -> desk.callsAt(0));
    }

    // One payment of 100000 on January 1, 2027, in 365 days.
    private static BondDesk onePayment() {
        return Desks.with(20260101, 20270101, 0, 1, 0).get();
    }

    // Payments of 10000 on January 1, 2027, and of 110000 a year later.
    private static BondDesk twoPayments() {
        return Desks.with(20260101, 20280101, 1000, 1, 0).get();
    }

    // Payments of 10000 on January 1, 2027 and 2028, and of 110000 a year later.
    private static BondDesk threePayments() {
        return Desks.with(20260101, 20290101, 1000, 1, 0).get();
    }

    private static BondDesk called() {
        BondDesk desk = new BondDesk();
        Desks.half(desk);
        desk.setCall(0, 20160101, 8000);
        desk.pass(14);
        return desk;
    }

    private static BondDesk ended() {
        BondDesk desk = Desks.with(20250105, 20260105, 1000, 1, 0).get();
        desk.pass(4);
        return desk;
    }

    // A bond whose face is 10 cents, without coupons, on February 5, 2026.
    private static BondDesk leastFace() {
        BondDesk desk = Desks.with(20250105, 20270105, 0, 12, 0).get();
        desk.setSink(0, 20160101, 4999);
        desk.pass(4);
        desk.setSink(0, 20160101, 5000);
        desk.pass(31);
        desk.setSink(0, 20160101, 0);
        return desk;
    }

    // ---- Terms, part 3

    @Says(at = "Terms 3", words = "The payments of a bond behind a date are the coupons, sinking and end of all later coupon dates")
    static void laterCouponDates() {
        BondDesk desk = twoPayments();
        Desks.passTo(desk, 20261231);
        worth(desk, 0, 120000);
        Desks.passTo(desk, 20270101);
        worth(desk, 0, 110000);
        Desks.passTo(desk, 20271231);
        worth(desk, 0, 110000);
        Desks.passTo(desk, 20280101);
        worth(desk, 0, 0);
        Check.same("it is not gone, for it is a Saturday", 0, () -> desk.bond(0, 9));
    }

    @Says(at = "Terms 3", words = "of all later coupon dates")
    static void notYetIssued() {
        BondDesk desk = Desks.with(20270101, 20280101, 1000, 1, 0).get();
        worth(desk, 0, 110000);
        worth(desk, 1000, 91666);
    }

    @Says(at = "Terms 3", words = "by the factor now, without calls.")
    static void byTheFactorNow() {
        BondDesk desk = threePayments();
        desk.setCall(0, 20160101, 8000);
        worth(desk, 0, 130000);
        desk.setSink(0, 20280101, 5000);
        worth(desk, 0, 10000 + 60000 + 55000);
        desk.setSink(0, 20270101, 5000);
        worth(desk, 0, 60000 + 55000);
        desk.setSink(0, 20270101, 4999);
        worth(desk, 0, 10000 + 49990 + 5001 + 49990 + 2 + 20);
        desk.setCall(0, 20160101, 0);
        Desks.passTo(desk, 20270101);
        worth(desk, 0, 5001 + 49990 + 2 + 20);
    }

    // 100000 * 3650000 / (3650000 + y), a day ahead of its end.
    @Says(at = "Terms 3", words = "the first one at a date n days later is worth (in billionths)"
            + " w = 1000000000 * 3650000 / (3650000 + y * n)")
    static void oneDayAhead() {
        BondDesk desk = Desks.with(20250102, 20260102, 0, 1, 0).get();
        worth(desk, 0, 100000);
        worth(desk, 1, 99999);
        worth(desk, 36, 99999);
        worth(desk, 37, 99998);
        worth(desk, 5000, 99863);
        BondDesk year = onePayment();
        worth(year, 0, 100000);
        worth(year, 2500, 80000);
        worth(year, 5000, 66666);
    }

    // 92000 at 2500, and 20000 / (20000 + 2500) of it half a year later are 8 ninths.
    @Says(at = "Terms 3", words = "each next one w * (10000 * f) / (10000 * f + y) of the one before it")
    static void nextOnes() {
        int[] fs = {1, 2, 4, 12};
        int[] ends = {20280101, 20270701, 20270401, 20270201};
        int[] due = {64000, 71111, 75294, 78367};
        for (int i = 0; i < 4; i++) {
            BondDesk desk = Desks.with(20261231, ends[i], 0, fs[i], 0).get();
            Check.same("its dates", 2, () -> desk.bond(0, 7));
            worth(desk, 2500, due[i]);
            worth(desk, 0, 100000);
        }
    }

    // At 10 %: 9090.9, 8264.4 and 82644.6, which would be 99999 if they were added ahead of the cut.
    @Says(at = "Terms 3", words = "the worth is the sum of payment * w / 1000000000 over all.")
    static void sumOfCutPayments() {
        worth(threePayments(), 1000, 9090 + 8264 + 82644);
        BondDesk desk = twoPayments();
        worth(desk, 1000, 9090 + 90909);
        desk.setSink(0, 20270101, 4999);
        worth(desk, 1000, 59990 * 10 / 11 + 55011 * 100 / 121);
    }

    @Says(at = "Terms 3", words = "It is 0 for one that is gone.")
    static void worthOfOneThatIsGone() {
        BondDesk desk = new BondDesk();
        Desks.half(desk);
        desk.setCall(0, 20160101, 8000);
        desk.pass(13);
        worth(desk, 0, 115000);
        desk.pass(1);
        worth(desk, 0, 0);
        worth(desk, 5000, 0);
        worth(ended(), 0, 0);
    }

    @Says(at = "Terms 3", words = "The full price of a piece at a price is face * price / 10000, and what is accrued today.")
    static void fullPrice() {
        BondDesk desk = new BondDesk();
        Desks.half(desk);
        desk.setSink(0, 20160101, 5000);
        Check.same("ahead of a sinking", 99990L + 4611, () -> desk.buy(0, 1, 9999));
        desk.pass(14);
        Check.same("on its day", 49995L, () -> desk.buy(0, 1, 9999));
        desk.pass(1);
        Check.same("a day behind it", 49995L + 13, () -> desk.buy(0, 1, 9999));
        Check.same("at the least price", 5L + 13, () -> desk.buy(0, 1, 1));
        Check.same("at the greatest price", 150000L + 13, () -> desk.buy(0, 1, 30000));
    }

    @Says(at = "Terms 3", words = "face * price / 10000")
    static void fullPriceIsCut() {
        BondDesk desk = leastFace();
        Check.same("9.999 cents", 9L, () -> desk.buy(0, 1, 9999));
        Check.same("10 cents", 10L, () -> desk.buy(0, 1, 10000));
        Check.same("1 cent", 1L, () -> desk.buy(0, 1, 1000));
        Check.same("0.999 cents", 0L, () -> desk.buy(0, 1, 999));
        Check.same("1000 times 0.999 cents", 0L, () -> desk.buy(0, 900, 999));
    }

    // ---- Promise 13

    @Says(at = "Promise 13", words = "Returns its worth for a piece at the date of the desk.")
    static void worthAtTheDateOfTheDesk() {
        BondDesk desk = onePayment();
        worth(desk, 5000, 66666);
        desk.pass(1);
        worth(desk, 5000, 66727);
        Desks.passTo(desk, 20261231);
        worth(desk, 5000, 99863);
        Desks.passTo(desk, 20270101);
        worth(desk, 5000, 0);
    }

    @Says(at = "Promise 13", words = "if there is no such bond")
    static void worthOfNoBond() {
        for (int bond : Desks.NO_BONDS) {
            Check.refusedIndex("worth of " + bond, Desks::busy, desk -> desk.worth(bond, 300));
        }
        Check.refusedIndex("worth where there is none", BondDesk::new, desk -> desk.worth(0, 300));
        Check.refusedIndex("worth behind ten", Desks::full, desk -> desk.worth(10, 300));
        Check.same("worth of the last of ten", 115000, () -> Desks.full().worth(9, 0));
    }

    @Says(at = "Promise 13", words = "if rate is not 0 to 5000")
    static void worthAtNoYield() {
        for (int rate : NO_YIELDS) {
            Check.refusedArgument("worth at " + rate, Desks::busy, desk -> desk.worth(0, rate));
            Check.refusedArgument("worth of one that is gone at " + rate, Desks::busy, desk -> desk.worth(2, rate));
        }
        worth(onePayment(), 0, 100000);
        worth(onePayment(), 1, 99990);
        worth(onePayment(), 4999, 66671);
        worth(onePayment(), 5000, 66666);
    }

    @Says(at = "Promise 13", words = {"Throws `IndexOutOfBoundsException` if there is no such bond",
        "Throws `IllegalArgumentException` if rate is not 0 to 5000"})
    static void worthOfNoBondAtNoYield() {
        for (int rate : NO_YIELDS) {
            Check.refusedIndex("worth of 4 at " + rate, Desks::busy, desk -> desk.worth(4, rate));
        }
    }

    // ---- Promise 14

    @Says(at = "Promise 14", words = "at which its worth is at least the full price at this price")
    static void atLeastTheFullPrice() {
        BondDesk desk = onePayment();
        worth(desk, 2500, 80000);
        worth(desk, 2501, 79993);
        yields(desk, 7999, 2501);
        yields(desk, 8000, 2500);
        yields(desk, 8001, 2498);
        BondDesk half = new BondDesk();
        Desks.half(half);
        worth(half, 0, 115000);
        Check.same("accrued", 4611, () -> half.accrued(0, 20260101));
        yields(half, 11038, 0);
        yields(half, 11039, -1);
    }

    @Says(at = "Promise 14", words = "Returns the greatest yield, 0 to 5000")
    static void leastAndGreatestYield() {
        BondDesk desk = onePayment();
        yields(desk, 10000, 0);
        yields(desk, 9999, 1);
        yields(desk, 6667, 4999);
        yields(desk, 6666, 5000);
        yields(desk, 6665, 5000);
        yields(desk, 1, 5000);
    }

    // The worth at the yield that is told is enough, and at one more it is not, whatever the price.
    @Says(at = "Promise 14", words = "Returns the greatest yield, 0 to 5000, at which its worth is at least the full price")
    static void greatestYieldOfEachPrice() {
        BondDesk desk = null;
        for (int price = 1; price <= 30000; price++) {
            if (price % 150 == 1) {
                desk = Desks.with(20260101, 20360101, 2000, 12, 0).get();
            }
            int found = desk.yields(0, price);
            long asked = 10L * price;
            boolean enough = found < 0 || desk.worth(0, found) >= asked;
            boolean less = found == 5000 || desk.worth(0, found + 1) < asked;
            Check.same("yields(0, " + price + ") is the greatest", "true true", enough + " " + less);
        }
    }

    @Says(at = "Promise 14", words = "-1 if there is none")
    static void noYield() {
        BondDesk desk = onePayment();
        yields(desk, 10000, 0);
        yields(desk, 10001, -1);
        yields(desk, 30000, -1);
        BondDesk two = twoPayments();
        yields(two, 12000, 0);
        yields(two, 12001, -1);
        BondDesk over = Desks.with(20250103, 20260103, 0, 1, 0).get();
        over.pass(1);
        yields(over, 10000, 0);
        over.pass(1);
        yields(over, 1, -1);
    }

    @Says(at = "Promise 14", words = "or it is gone.")
    static void yieldOfOneThatIsGone() {
        yields(ended(), 1, -1);
        yields(called(), 1, -1);
        BondDesk sunk = Desks.with(20250105, 20270105, 0, 2, 0).get();
        sunk.setSink(0, 20160101, 5000);
        Desks.passTo(sunk, 20260705);
        yields(sunk, 1, 5000);
        Desks.passTo(sunk, 20260706);
        yields(sunk, 1, -1);
    }

    @Says(at = "Promise 14", words = "if there is no such bond")
    static void yieldOfNoBond() {
        for (int bond : Desks.NO_BONDS) {
            Check.refusedIndex("yields of " + bond, Desks::busy, desk -> desk.yields(bond, 10000));
        }
        Check.refusedIndex("yields where there is none", BondDesk::new, desk -> desk.yields(0, 10000));
        Check.refusedIndex("yields behind ten", Desks::full, desk -> desk.yields(10, 10000));
        Check.same("yields of the last of ten", 5000, () -> Desks.full().yields(9, 1));
    }

    @Says(at = "Promise 14", words = "if price is not 1 to 30000")
    static void yieldAtNoPrice() {
        for (int price : Desks.NO_PRICES) {
            Check.refusedArgument("yields at " + price, Desks::busy, desk -> desk.yields(0, price));
            Check.refusedArgument("yields of one that is gone at " + price, Desks::busy, desk -> desk.yields(2, price));
        }
        yields(Desks.busy(), 1, 5000);
        yields(Desks.busy(), 30000, -1);
        BondDesk rich = Desks.with(20260101, 20360101, 2000, 1, 0).get();
        yields(rich, 30000, 0);
    }

    @Says(at = "Promise 14", words = {"Throws `IndexOutOfBoundsException` if there is no such bond",
        "Throws `IllegalArgumentException` if price is not 1 to 30000"})
    static void yieldOfNoBondAtNoPrice() {
        for (int price : Desks.NO_PRICES) {
            Check.refusedIndex("yields of 4 at " + price, Desks::busy, desk -> desk.yields(4, price));
        }
    }

    // ---- Promise 15

    @Says(at = "Promise 15", words = "Returns the worth at the yield, less that at the yield and 1.")
    static void movesAtTheEnds() {
        BondDesk desk = onePayment();
        Check.same("moves(0, 0)", 100000 - 99990, () -> desk.moves(0, 0));
        Check.same("moves(0, 2499)", 80006 - 80000, () -> desk.moves(0, 2499));
        Check.same("moves(0, 4999)", 66671 - 66666, () -> desk.moves(0, 4999));
        Check.same("moves(0, 5000)", 66666 - 66662, () -> desk.moves(0, 5000));
        Check.same("one that is gone", 0, () -> called().moves(0, 0));
    }

    @Says(at = "Promise 15", words = "if there is no such bond")
    static void movesOfNoBond() {
        for (int bond : Desks.NO_BONDS) {
            Check.refusedIndex("moves of " + bond, Desks::busy, desk -> desk.moves(bond, 300));
        }
        Check.refusedIndex("moves where there is none", BondDesk::new, desk -> desk.moves(0, 300));
        Check.refusedIndex("moves behind ten", Desks::full, desk -> desk.moves(10, 300));
        Check.same("moves of the last of ten", Desks.full().moves(0, 0), () -> Desks.full().moves(9, 0));
    }

    @Says(at = "Promise 15", words = "if rate is not 0 to 5000")
    static void movesAtNoYield() {
        for (int rate : NO_YIELDS) {
            Check.refusedArgument("moves at " + rate, Desks::busy, desk -> desk.moves(0, rate));
            Check.refusedArgument("moves of one that is gone at " + rate, Desks::busy, desk -> desk.moves(2, rate));
        }
    }

    @Says(at = "Promise 15", words = {"Throws `IndexOutOfBoundsException` if there is no such bond",
        "Throws `IllegalArgumentException` if rate is not 0 to 5000"})
    static void movesOfNoBondAtNoYield() {
        for (int rate : NO_YIELDS) {
            Check.refusedIndex("moves of 4 at " + rate, Desks::busy, desk -> desk.moves(4, rate));
        }
    }

    // ---- Promise 16

    // A year ahead of its end it is worth 110000 / (1 + rate).
    @Says(at = "Promise 16", words = "Returns the greatest refinancing rate, 0 to 2000, at which it would be called")
    static void greatestRate() {
        int[] prices = {8000, 9166, 9167, 9168, 10000, 10998, 10999, 11000};
        int[] due = {2000, 2000, 1999, 1998, 999, 1, 0, -1};
        for (int i = 0; i < prices.length; i++) {
            BondDesk desk = twoPayments();
            desk.setCall(0, 20160101, prices[i]);
            callsAt(desk, due[i]);
        }
    }

    // At the rate that is told it is called, and at one more it is not.
    @Says(at = "Promise 16", words = "at which it would be called on the first coupon date on which it could be yet")
    static void calledAtTheGreatestRate() {
        for (int more = 0; more <= 1; more++) {
            BondDesk desk = twoPayments();
            desk.setCall(0, 20160101, 10000);
            desk.setRate(desk.callsAt(0) + more);
            Desks.passTo(desk, 20270101);
            Check.same("called at it and " + more, more == 0 ? 2 : 0, () -> desk.bond(0, 9));
        }
    }

    // Two years ahead of its end 105000 are 7.22 %, and one year, a leap year, ahead of it 4.74 %.
    @Says(at = "Promise 16", words = "on the first coupon date on which it could be yet")
    static void firstDateOfACall() {
        BondDesk desk = threePayments();
        desk.setCall(0, 20270101, 10500);
        callsAt(desk, 722);
        desk.setCall(0, 20270102, 10500);
        callsAt(desk, 474);
        desk.setCall(0, 20270101, 11500);
        desk.setRate(2000);
        Desks.passTo(desk, 20261231);
        callsAt(desk, 224);
        Desks.passTo(desk, 20270101);
        callsAt(desk, -1);
        desk.setCall(0, 20270101, 10500);
        callsAt(desk, 474);
    }

    // 10000 at a factor of 10000; of 5001 the same yield, and of 1 (11 of 10 cents) a yield of 0.
    @Says(at = "Promise 16", words = "(with the factor that its sinking fund leaves behind this date)")
    static void rateByTheFactorLeft() {
        BondDesk desk = Desks.with(20260101, 20290101, 1000, 1, 0).get();
        desk.setSink(0, 20160101, 4999);
        Desks.passTo(desk, 20270101);
        desk.setCall(0, 20160101, 10000);
        desk.setSink(0, 20280102, 5000);
        callsAt(desk, 997);
        desk.setSink(0, 20280101, 5000);
        callsAt(desk, 0);
    }

    @Says(at = "Promise 16", words = "-1 if it would not even at 0")
    static void notCalledEvenAt0() {
        BondDesk desk = twoPayments();
        desk.setCall(0, 20160101, 10999);
        callsAt(desk, 0);
        desk.setCall(0, 20160101, 11000);
        callsAt(desk, -1);
        desk.setCall(0, 20160101, 15000);
        callsAt(desk, -1);
    }

    @Says(at = "Promise 16", words = "its sinking fund leaves nothing till then")
    static void nothingLeftTillThen() {
        BondDesk desk = threePayments();
        desk.setCall(0, 20280101, 8000);
        desk.setSink(0, 20270101, 5000);
        callsAt(desk, -1);
        desk.setSink(0, 20270101, 4999);
        callsAt(desk, 2000);
        desk.setSink(0, 20270102, 5000);
        callsAt(desk, 2000);
        desk.setSink(0, 20270101, 5000);
        desk.setCall(0, 20270101, 8000);
        callsAt(desk, 2000);
    }

    @Says(at = "Promise 16", words = "it cannot be called any more")
    static void notCalledAnyMore() {
        BondDesk desk = threePayments();
        callsAt(desk, -1);
        desk.setCall(0, 20280101, 8000);
        callsAt(desk, 2000);
        desk.setCall(0, 20280102, 8000);
        callsAt(desk, -1);
        desk.setCall(0, 20280101, 0);
        callsAt(desk, -1);
        desk.setCall(0, 20280101, 15000);
        Desks.passTo(desk, 20271231);
        desk.setCall(0, 20280101, 8000);
        callsAt(desk, 2000);
        desk.setCall(0, 20280101, 15000);
        Desks.passTo(desk, 20280103);
        desk.setCall(0, 20280101, 8000);
        callsAt(desk, -1);
        BondDesk one = onePayment();
        one.setCall(0, 20160101, 8000);
        callsAt(one, -1);
    }

    // Without the test one that is gone by its sinking fund or a call would be asked for its next call.
    @Says(at = "Promise 16", words = "or is gone.")
    static void rateOfOneThatIsGone() {
        callsAt(called(), -1);
        callsAt(ended(), -1);
        BondDesk desk = Desks.with(20260101, 20300101, 1000, 1, 0).get();
        desk.setCall(0, 20160101, 8000);
        Desks.passTo(desk, 20261231);
        callsAt(desk, 1940);
        Desks.passTo(desk, 20270101);
        callsAt(desk, -1);
    }

    @Says(at = "Promise 16", words = "if there is no such bond")
    static void rateOfNoBond() {
        for (int bond : Desks.NO_BONDS) {
            Check.refusedIndex("callsAt(" + bond + ")", Desks::busy, desk -> desk.callsAt(bond));
        }
        Check.refusedIndex("callsAt where there is none", BondDesk::new, desk -> desk.callsAt(0));
        Check.refusedIndex("callsAt behind ten", Desks::full, desk -> desk.callsAt(10));
        Supplier<BondDesk> made = () -> {
            BondDesk desk = Desks.full();
            desk.setCall(9, 20160101, 8000);
            return desk;
        };
        Check.same("callsAt(9), the last of ten", 2000, () -> made.get().callsAt(9));
        Check.same("callsAt(8), the one before it", -1, () -> made.get().callsAt(8));
    }
}
