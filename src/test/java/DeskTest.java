/** Promises 17 to 25: buy, sell, pass, count, paysIn, ladder, best, years, digest. */
public final class DeskTest {
    public static void main(String[] args) {
        buy();
        buyAllTheCash();
        buyBad();
        sell();
        sellBad();
        pass();
        passEvents();
        passOverHolidays();
        passInOrder();
        passTwoAtOnce();
        passToTheLastDate();
        toldBehindTheirCoupons();
        count();
        paysIn();
        ladder();
        ladderMissing();
        best();
        years();
        digest();
        bad();
        Check.end();
    }

    // Coupons of 5000 on each January 15 and July 15; the latest one ahead of today in July 2025.
    private static int tell(BondDesk desk, int end) {
        return desk.addBond(20250115, end, 1000, 2, 0);
    }

    private static void buy() {
        BondDesk desk = new BondDesk();
        tell(desk, 20270115);
        Check.same("accrued in 166 days", 4611, () -> desk.accrued(0, 20260101));
        Check.same("buy(0, 3, 9999)", 3L * (99990 + 4611), () -> desk.buy(0, 3, 9999));
        Check.same("the cash", 200000000L - 3 * (99990 + 4611), () -> desk.count(1));
        Check.same("buy(0, 1, 1)", 10L + 4611, () -> desk.buy(0, 1, 1));
        Check.same("pieces", 4, () -> desk.bond(0, 10));
        Check.same("buy(0, 1, 30000)", 300000L + 4611, () -> desk.buy(0, 1, 30000));
        Check.badState(desk, "more than 1000", () -> desk.buy(0, 996, 100));
        Check.same("up to 1000", 995L * (1000 + 4611), () -> desk.buy(0, 995, 100));
        Check.badState(desk, "one more", () -> desk.buy(0, 1, 100));
        desk.addBond(20260101, 20270101, 0, 1, 0);
        Check.same("on its issue date", 100000L, () -> desk.buy(1, 1, 10000));
    }

    private static void buyAllTheCash() {
        BondDesk desk = new BondDesk();
        for (int i = 0; i < 3; i++) {
            desk.addBond(20260101, 20270101, 0, 1, 0);
        }
        Check.same("half of the cash", 100000000L, () -> desk.buy(0, 1000, 10000));
        Check.badState(desk, "the cash is not enough", () -> desk.buy(1, 1000, 10001));
        Check.same("the other half", 100000000L, () -> desk.buy(1, 1000, 10000));
        Check.same("no cash", 0L, () -> desk.count(1));
        Check.badState(desk, "no cash", () -> desk.buy(2, 1, 1));
        Check.same("sell(0, 1, 1)", 10L, () -> desk.sell(0, 1, 1));
        Check.same("buy(2, 1, 1)", 10L, () -> desk.buy(2, 1, 1));
    }

    private static void buyBad() {
        BondDesk desk = new BondDesk();
        desk.addBond(20260106, 20270101, 0, 1, 0);
        Check.badState(desk, "ahead of its issue date", () -> desk.buy(0, 1, 10000));
        desk.pass(2);
        Check.badState(desk, "on a Saturday", () -> desk.buy(0, 1, 10000));
        tell(desk, 20270115);
        Check.badState(desk, "on a Saturday", () -> desk.buy(1, 1, 10000));
        Check.badArgument(desk, "0 pieces on a Saturday", () -> desk.buy(1, 0, 10000));
        desk.pass(1);
        Check.badState(desk, "on a Sunday", () -> desk.buy(1, 1, 10000));
        desk.pass(1);
        Check.badState(desk, "on a Monday ahead of its issue date", () -> desk.buy(0, 1, 10000));
        Check.same("on a Monday", 100000L + 4722, () -> desk.buy(1, 1, 10000));
        desk.addHoliday(20260105);
        Check.badState(desk, "on a holiday", () -> desk.buy(1, 1, 10000));
        Check.badState(desk, "on a holiday", () -> desk.sell(1, 1, 10000));
        desk.addBond(20250106, 20260106, 0, 1, 0);
        desk.pass(1);
        Check.same("on its issue date", 100000L, () -> desk.buy(0, 1, 10000));
        Check.badState(desk, "one that is gone", () -> desk.buy(2, 1, 10000));
    }

    private static void sell() {
        BondDesk desk = new BondDesk();
        tell(desk, 20270115);
        desk.buy(0, 10, 10000);
        long cash = desk.count(1);
        Check.same("sell(0, 3, 9999)", 3L * (99990 + 4611), () -> desk.sell(0, 3, 9999));
        Check.same("the cash", cash + 3 * (99990 + 4611), () -> desk.count(1));
        Check.same("pieces", 7, () -> desk.bond(0, 10));
        Check.badState(desk, "8 of 7", () -> desk.sell(0, 8, 10000));
        Check.same("7 of 7", 7L * (300000 + 4611), () -> desk.sell(0, 7, 30000));
        Check.badState(desk, "1 of none", () -> desk.sell(0, 1, 10000));
        desk.buy(0, 10, 10000);
        desk.setSink(0, 20260101, 5000);
        desk.pass(14);
        Check.same("half of the face", 49995L, () -> desk.sell(0, 1, 9999));
    }

    private static void sellBad() {
        BondDesk desk = new BondDesk();
        tell(desk, 20260715);
        tell(desk, 20270115);
        desk.buy(0, 10, 10000);
        Check.badArgument(desk, "sell(1, 0, 1)", () -> desk.sell(1, 0, 1));
        Check.badState(desk, "those of another one", () -> desk.sell(1, 1, 1));
        desk.pass(2);
        Check.badState(desk, "on a Saturday", () -> desk.sell(0, 1, 10000));
        Check.badArgument(desk, "1001 on a Saturday", () -> desk.sell(0, 1001, 10000));
        desk.pass(398);
        Check.badState(desk, "one that is gone", () -> desk.sell(0, 1, 10000));
        Check.same("it is a working day", 20270205, () -> desk.working((int) desk.count(0)));
    }

    private static void pass() {
        BondDesk desk = new BondDesk();
        Check.same("pass(1)", 0L, () -> desk.pass(1));
        Check.same("the date", 20260102L, () -> desk.count(0));
        Check.same("pass(400)", 0L, () -> desk.pass(400));
        Check.same("the date", 20270206L, () -> desk.count(0));
        Check.badArgument(desk, "pass(0)", () -> desk.pass(0));
        Check.badArgument(desk, "pass(-1)", () -> desk.pass(-1));
        Check.badArgument(desk, "pass(401)", () -> desk.pass(401));
        Check.badArgument(desk, "pass of all", () -> desk.pass(Integer.MAX_VALUE));
        Check.badArgument(desk, "pass of less than all", () -> desk.pass(Integer.MIN_VALUE));
    }

    private static void paid(BondDesk desk, long coupons, long sinking, long calls, long ends) {
        Check.same("coupons", coupons, () -> desk.count(7));
        Check.same("sinking", sinking, () -> desk.count(8));
        Check.same("calls", calls, () -> desk.count(9));
        Check.same("ends", ends, () -> desk.count(10));
    }

    private static void passEvents() {
        BondDesk desk = new BondDesk();
        tell(desk, 20270115);
        desk.setSink(0, 20260115, 2500);
        desk.setCall(0, 20260716, 8000);
        desk.buy(0, 10, 10000);
        long cash = desk.count(1);
        Check.same("up to the eve", 0L, () -> desk.pass(13));
        Check.same("coupon and a quarter", 300000L, () -> desk.pass(1));
        paid(desk, 50000, 250000, 0, 0);
        Check.same("up to the eve", 0L, () -> desk.pass(180));
        Check.same("coupon and a quarter", 287500L, () -> desk.pass(1));
        paid(desk, 87500, 500000, 0, 0);
        Check.same("factor", 5000, () -> desk.bond(0, 5));
        Check.same("coupon and end", 525000L, () -> desk.pass(184));
        paid(desk, 112500, 500000, 0, 500000);
        Check.same("the cash", cash + 300000 + 287500 + 525000, () -> desk.count(1));
        Check.same("no call on the end", 1, () -> desk.bond(0, 9));
        Check.same("the factor stays", 5000, () -> desk.bond(0, 5));
        Check.same("no pieces", 0, () -> desk.bond(0, 10));
        passCall();
        passToFactor0();
        passOneBehindTheOther();
    }

    private static void passCall() {
        BondDesk desk = new BondDesk();
        tell(desk, 20270115);
        desk.setSink(0, 20260115, 2500);
        desk.setCall(0, 20260715, 10100);
        desk.buy(0, 10, 10000);
        desk.pass(14);
        Check.same("not called ahead of its date", 0, () -> desk.bond(0, 9));
        Check.same("coupon, a quarter and call", 37500L + 250000 + 505000, () -> desk.pass(181));
        paid(desk, 87500, 500000, 505000, 0);
        Check.same("called", 2, () -> desk.bond(0, 9));
        Check.same("the factor stays", 5000, () -> desk.bond(0, 5));
        Check.same("pays no more", 0L, () -> desk.pass(400));
        Check.same("the factor stays", 5000, () -> desk.bond(0, 5));
    }

    private static void passToFactor0() {
        BondDesk desk = new BondDesk();
        tell(desk, 20270715);
        desk.setSink(0, 20260115, 5000);
        desk.setCall(0, 20260715, 8000);
        desk.buy(0, 10, 10000);
        desk.pass(14);
        desk.setSink(0, 20260115, 4000);
        desk.pass(180);
        desk.setSink(0, 20260115, 5000);
        Check.same("coupon and the other half", 25000L + 500000, () -> desk.pass(1));
        paid(desk, 75000, 1000000, 0, 0);
        Check.same("it ended", 1, () -> desk.bond(0, 9));
        Check.same("nothing is left", 0, () -> desk.bond(0, 5));
        Check.same("there is none", 0L, () -> desk.count(4));
    }

    // At a rate of 0 the worth behind the first coupon is 110000: only more than the price calls.
    private static void passOneBehindTheOther() {
        BondDesk desk = new BondDesk();
        desk.setRate(0);
        desk.addBond(20250109, 20270109, 1000, 1, 0);
        for (int end = 20260109; end <= 20260115; end += 3) {
            desk.addBond(20250109, end, 0, 1, 0);
            desk.addBond(20250109, end + 10000, 1000, 1, 0);
        }
        desk.setCall(0, 20260101, 11000);
        for (int i = 0; i < 7; i++) {
            desk.buy(i, 1, 9000);
            if (i > 0 && i % 2 == 0) {
                desk.setCall(i, 20260101, 10000);
            }
        }
        Check.same("on Friday", 10000L + 100000 + 10000 + 100000, () -> desk.pass(8));
        paid(desk, 20000, 0, 100000, 100000);
        Check.same("not called at its worth", 0, () -> desk.bond(0, 9));
        desk.setCall(0, 20260101, 10999);
        Check.same("on Monday", 100000L + 10000 + 100000, () -> desk.pass(3));
        Check.same("on Thursday", 100000L + 10000 + 100000, () -> desk.pass(3));
        paid(desk, 40000, 0, 300000, 300000);
        Check.same("not called behind its date", 0, () -> desk.bond(0, 9));
        Check.same("one is there", 1L, () -> desk.count(4));
    }

    private static void passOverHolidays() {
        BondDesk desk = new BondDesk();
        desk.addHoliday(20260105);
        desk.addBond(20250103, 20270103, 1000, 2, 0);
        desk.addBond(20250104, 20260104, 1000, 2, 0);
        desk.buy(0, 1, 10000);
        desk.buy(1, 1, 10000);
        Check.same("Saturday, Sunday and a holiday", 0L, () -> desk.pass(4));
        Check.same("the date", 20260105L, () -> desk.count(0));
        Check.same("not ended yet", 0, () -> desk.bond(1, 9));
        Check.same("not looked at yet", 1, () -> desk.bond(0, 8));
        Check.same("behind the holiday", 5000L + 105000, () -> desk.pass(1));
        Check.same("it ended", 1, () -> desk.bond(1, 9));
        desk.addHoliday(20260703);
        desk.addHoliday(20260706);
        desk.addHoliday(20260707);
        Check.same("up to the last holiday", 0L, () -> desk.pass(182));
        Check.same("the date", 20260707L, () -> desk.count(0));
        Check.same("the next working day", 5000L, () -> desk.pass(1));
    }

    // What is bought on the day of a coupon does not get it, for it was looked at ahead of the trade.
    private static void passInOrder() {
        BondDesk desk = new BondDesk();
        tell(desk, 20270115);
        desk.pass(14);
        Check.same("on the coupon date", 100000L, () -> desk.buy(0, 1, 10000));
        Check.same("nothing more that day", 0L, () -> desk.count(7));
        Check.same("till the next one", 0L, () -> desk.pass(180));
        Check.same("the next one", 5000L, () -> desk.pass(1));
    }

    // Both ends of a chain of holidays are coupon dates: they are looked at one behind the other.
    private static void passTwoAtOnce() {
        BondDesk desk = new BondDesk();
        desk.addBond(20260101, 20260701, 1200, 12, 0);
        int date = 20260130;
        for (int i = 0; i < 30; i++) {
            while (desk.weekday(date) > 4) {
                date = desk.later(date, 1);
            }
            desk.addHoliday(date);
            date = desk.later(date, 1);
        }
        int last = date;
        Check.same("the first open day", 20260313, () -> desk.working(20260201));
        Check.same("behind the last holiday", 20260313, () -> last);
        desk.setSink(0, 20260101, 1000);
        desk.buy(0, 1, 10000);
        Check.same("up to the last holiday", 0L, () -> desk.pass(70));
        Check.same("none is looked at", 0, () -> desk.bond(0, 8));
        Check.same("the factor stays", 10000, () -> desk.bond(0, 5));
        Check.same("both", 1000L + 10000 + 900 + 10000, () -> desk.pass(1));
        Check.same("two are looked at", 2, () -> desk.bond(0, 8));
        Check.same("the factor", 8000, () -> desk.bond(0, 5));
    }

    private static void passToTheLastDate() {
        BondDesk desk = new BondDesk();
        int end = tell(desk, 20661101);
        desk.buy(end, 1, 10000);
        for (int i = 0; i < 37; i++) {
            desk.pass(400);
        }
        Check.same("the date", 20660710L, () -> desk.count(0));
        Check.badState(desk, "pass(115)", () -> desk.pass(115));
        Check.badState(desk, "pass(400)", () -> desk.pass(400));
        Check.badArgument(desk, "pass(401)", () -> desk.pass(401));
        Check.same("the end", 105000L, () -> desk.pass(114));
        Check.same("the date", 20661101L, () -> desk.count(0));
        Check.badState(desk, "pass(1)", () -> desk.pass(1));
        Check.badArgument(desk, "no bond any more", () -> desk.addBond(20660101, 20661101, 0, 1, 0));
    }

    private static void toldBehindTheirCoupons() {
        BondDesk desk = new BondDesk();
        desk.pass(14);
        tell(desk, 20270115);
        desk.setSink(0, 20160101, 1000);
        Check.same("the one of today is over", 2, () -> desk.bond(0, 8));
        Check.same("tomorrow", 0L, () -> desk.pass(1));
        Check.same("the factor stays", 10000, () -> desk.bond(0, 5));
        desk.buy(0, 1, 10000);
        desk.pass(2);
        desk.addBond(20250117, 20270117, 1000, 2, 0);
        desk.setSink(1, 20160101, 1000);
        Check.same("the one of Saturday is over on Sunday", 2, () -> desk.bond(1, 8));
        desk.pass(1);
        Check.same("it stays so on Monday", 10000, () -> desk.bond(1, 5));
        Check.same("the next one", 5000L + 10000, () -> desk.pass(177));
        desk.pass(2);
        Check.same("the next one of the other", 9000, () -> desk.bond(1, 5));
    }

    private static void count(BondDesk desk, long... due) {
        for (int i = 0; i < due.length; i++) {
            int what = i;
            Check.same("count(" + i + ")", due[i], () -> desk.count(what));
        }
    }

    private static void count() {
        BondDesk desk = new BondDesk();
        desk.addHoliday(20260401);
        desk.addHoliday(20260402);
        desk.addBond(20260101, 20270101, 0, 1, 0);
        desk.addBond(20260101, 20280101, 1000, 1, 0);
        desk.addBond(20250105, 20260105, 0, 1, 0);
        desk.setRate(1000);
        desk.buy(0, 2, 9000);
        desk.buy(1, 3, 9000);
        desk.buy(2, 4, 9000);
        long cash = 200000000 - 9 * 90000;
        count(desk, 20260101, cash, 1000, 3, 3, 2, 9, 0, 0, 0, 0,
                2 * 90909 + 3 * 99999 + 4 * 99890);
        desk.pass(4);
        cash += 400000;
        count(desk, 20260105, cash, 1000, 3, 2, 2, 5, 0, 0, 0, 400000,
                2 * desk.worth(0, 1000) + 3 * desk.worth(1, 1000));
    }

    private static void pays(BondDesk desk, int year, long due) {
        Check.same("paysIn(" + year + ")", due, () -> desk.paysIn(year));
    }

    private static void paysIn() {
        BondDesk desk = new BondDesk();
        tell(desk, 20280115);
        desk.addBond(20260103, 20270103, 1000, 12, 0);
        tell(desk, 20300115);
        pays(desk, 2026, 0);
        desk.buy(0, 2, 10000);
        desk.setCall(0, 20160101, 8000);
        desk.setRate(2000);
        pays(desk, 2025, 0);
        pays(desk, 2026, 2 * 10000);
        pays(desk, 2027, 2 * 10000);
        pays(desk, 2028, 2 * 105000);
        pays(desk, 2029, 0);
        pays(desk, 2016, 0);
        pays(desk, 2066, 0);
        desk.setSink(0, 20260715, 2500);
        pays(desk, 2026, 2 * (5000 + 5000 + 25000));
        pays(desk, 2027, 2 * (3750 + 25000 + 2500 + 25000));
        pays(desk, 2028, 2 * (1250 + 25000));
        desk.setCall(0, 20160101, 0);
        desk.pass(14);
        pays(desk, 2026, 2 * (5000 + 25000));
        desk.setSink(0, 20270116, 5000);
        desk.pass(181);
        pays(desk, 2026, 0);
        pays(desk, 2027, 2 * (5000 + 5000 + 50000));
        onTheWeekend();
    }

    // The coupon of Saturday, January 3, is no later one on that day, though it is not looked at yet.
    private static void onTheWeekend() {
        BondDesk desk = new BondDesk();
        desk.addBond(20250703, 20260703, 1000, 2, 0);
        desk.buy(0, 1, 10000);
        pays(desk, 2026, 5000 + 105000);
        desk.pass(1);
        pays(desk, 2026, 5000 + 105000);
        desk.pass(1);
        pays(desk, 2026, 105000);
        Check.same("Monday", 5000L, () -> desk.pass(2));
    }

    private static void rungs(BondDesk desk, int from, int to, int due) {
        Check.same("ladder(" + from + ", " + to + ")", due, () -> desk.ladder(from, to));
    }

    private static void ladder() {
        BondDesk desk = new BondDesk();
        desk.setRate(1000);
        desk.addBond(20260101, 20270101, 0, 1, 0);
        desk.addBond(20260101, 20280101, 1000, 1, 0);
        rungs(desk, 2027, 2027, 200000000 / 90909);
        rungs(desk, 2028, 2028, 200000000 / 99999);
        rungs(desk, 2027, 2028, 200000000 / (90909 + 99999));
        desk.addBond(20250701, 20270101, 1000, 1, 0);
        rungs(desk, 2027, 2028, 200000000 / (90909 + 99999));
        desk.addBond(20260101, 20280101, 999, 1, 0);
        rungs(desk, 2027, 2028, 200000000 / (90909 + desk.worth(3, 1000)));
        desk.addBond(20260102, 20280101, 0, 1, 0);
        rungs(desk, 2027, 2028, 200000000 / (90909 + desk.worth(3, 1000)));
        desk.buy(0, 1000, 10000);
        rungs(desk, 2027, 2027, 100000000 / 90909);
        desk.pass(1);
        rungs(desk, 2027, 2028, 100000000 / (desk.worth(0, 1000) + desk.worth(4, 1000)));
        desk.setRate(0);
        rungs(desk, 2027, 2028, 500);
        desk.pass(1);
        rungs(desk, 2027, 2028, 500);
        ladderOfLittle();
        ladderOfNothing();
    }

    // A face of 10 cents: the cash buys more of it than is told.
    private static void ladderOfLittle() {
        BondDesk desk = new BondDesk();
        desk.addBond(20250105, 20270105, 0, 12, 0);
        desk.addBond(20250105, 20260705, 0, 1, 0);
        desk.setSink(0, 20260101, 4999);
        desk.setRate(0);
        desk.pass(4);
        desk.setSink(0, 20260101, 5000);
        rungs(desk, 2027, 2027, 3999);
        desk.pass(31);
        desk.setSink(0, 20260101, 0);
        Check.same("factor", 1, () -> desk.bond(0, 5));
        Check.same("worth", 10, () -> desk.worth(0, 0));
        rungs(desk, 2027, 2027, 1000000);
        rungs(desk, 2026, 2027, 200000000 / 100010);
        desk.setRate(2000);
        desk.addBond(20250601, 20280601, 0, 1, 0);
        rungs(desk, 2027, 2028, 200000000 / (desk.worth(0, 2000) + desk.worth(2, 2000)));
    }

    // A face of 10 cents that is paid in 40 years is worth nothing today; it is a rung all the same.
    private static void ladderOfNothing() {
        BondDesk desk = new BondDesk();
        desk.setRate(2000);
        desk.addBond(20250105, 20660105, 0, 1, 0);
        desk.addBond(20250101, 20660401, 0, 1, 0);
        desk.addBond(20250105, 20650105, 0, 1, 0);
        desk.setSink(0, 20260101, 4999);
        desk.setSink(2, 20260101, 4950);
        desk.pass(4);
        desk.setSink(0, 20260101, 5000);
        desk.setSink(2, 20260101, 4950);
        desk.pass(365);
        desk.setSink(0, 20260101, 0);
        desk.setSink(2, 20260101, 0);
        Check.same("a cent in 40 years", 0, () -> desk.worth(0, 2000));
        rungs(desk, 2066, 2066, 0);
        desk.setRate(0);
        rungs(desk, 2065, 2065, 200000);
        rungs(desk, 2065, 2066, 200000000 / 1010);
        desk.setRate(700);
        Check.same("76 cents and nothing", "76 0", () -> desk.worth(2, 700) + " " + desk.worth(0, 700));
        rungs(desk, 2065, 2066, 1000000);
        desk.setRate(2000);
        rungs(desk, 2065, 2066, 0);
    }

    private static void ladderMissing() {
        BondDesk desk = new BondDesk();
        rungs(desk, 2026, 2026, -1);
        tell(desk, 20260715);
        tell(desk, 20280715);
        rungs(desk, 2026, 2026, 200000000 / desk.worth(0, 300));
        rungs(desk, 2026, 2027, -1);
        rungs(desk, 2027, 2027, -1);
        rungs(desk, 2026, 2028, -1);
        rungs(desk, 2025, 2026, -1);
        rungs(desk, 2016, 2066, -1);
        tell(desk, 20270715);
        rungs(desk, 2026, 2028, 200000000 / (desk.worth(0, 300) + desk.worth(1, 300) + desk.worth(2, 300)));
        desk.addBond(20260101, 20290110, 0, 1, 0);
        desk.addBond(20260102, 20300110, 0, 1, 0);
        rungs(desk, 2030, 2030, -1);
        desk.setCall(3, 20260101, 8000);
        desk.setRate(0);
        desk.pass(9);
        rungs(desk, 2029, 2029, 2000);
        rungs(desk, 2030, 2030, 2000);
        desk.pass(3);
        rungs(desk, 2029, 2029, -1);
        ladderOnTheWeekend();
    }

    private static void ladderOnTheWeekend() {
        BondDesk desk = new BondDesk();
        desk.addBond(20250103, 20260103, 0, 1, 0);
        desk.pass(1);
        desk.setRate(0);
        rungs(desk, 2026, 2026, 2000);
        desk.pass(1);
        Check.same("it is there", 0, () -> desk.bond(0, 9));
        rungs(desk, 2026, 2026, -1);
    }

    private static void best(BondDesk desk, int price, int due) {
        Check.same("best(" + price + ")", due, () -> desk.best(price));
    }

    private static void best() {
        BondDesk desk = new BondDesk();
        best(desk, 10000, -1);
        desk.addBond(20260101, 20280101, 300, 1, 0);
        desk.addBond(20260101, 20280101, 500, 1, 0);
        desk.addBond(20260101, 20280101, 500, 1, 0);
        desk.addBond(20260102, 20280102, 2000, 1, 0);
        desk.addBond(20250105, 20260105, 0, 1, 0);
        best(desk, 10000, 1);
        best(desk, 30000, -1);
        best(desk, 11001, -1);
        best(desk, 11000, 1);
        best(desk, 9000, 4);
        best(desk, 1, 0);
        desk.pass(4);
        best(desk, 9000, 3);
        desk.setCall(3, 20260101, 8000);
        desk.pass(400);
        best(desk, 9000, 1);
    }

    private static void years() {
        BondDesk desk = new BondDesk();
        desk.addBond(20260101, 20270101, 0, 1, 0);
        desk.addBond(20250105, 20300105, 0, 2, 0);
        Check.same("nothing is held", 0.0, desk::years);
        desk.buy(0, 3, 10000);
        Check.same("one", 1.0, desk::years);
        desk.buy(1, 1, 10000);
        int days = 365 + 365 + 366 + 365 + 4;
        Check.same("two", (3.0 * 365 + days) / 4 / 365, desk::years);
        desk.setSink(1, 20260101, 5000);
        desk.pass(4);
        Check.same("by faces", (300000.0 * 361 + 50000.0 * (days - 4)) / 350000 / 365, desk::years);
        desk.sell(0, 3, 10000);
        Check.same("the other one", (days - 4) / 365.0, desk::years);
        desk.sell(1, 1, 10000);
        Check.same("nothing any more", 0.0, desk::years);
    }

    private static void digest() {
        BondDesk desk = new BondDesk();
        Check.same("digest of a new one", Desks.plainDigest(desk), desk::digest);
        desk.addHoliday(20260402);
        desk.addHoliday(20260105);
        desk.addBond(20250301, 20270115, 1000, 2, 3);
        tell(desk, 20260715);
        desk.setSink(0, 20260101, 2500);
        desk.buy(0, 5, 10000);
        desk.buy(1, 6, 10000);
        Check.same("digest", Desks.plainDigest(desk, 20260402, 20260105), desk::digest);
        Check.same("digest again", Desks.plainDigest(desk, 20260402, 20260105), desk::digest);
        desk.pass(100);
        Check.same("digest behind a sinking", Desks.plainDigest(desk, 20260402, 20260105), desk::digest);
        desk.pass(200);
        Check.same("digest behind an end", Desks.plainDigest(desk, 20260402, 20260105), desk::digest);
    }

    private static void bad() {
        BondDesk desk = new BondDesk();
        tell(desk, 20280115);
        desk.buy(0, 5, 10000);
        for (int bond : new int[] {-1, 1, 10, Integer.MAX_VALUE, Integer.MIN_VALUE}) {
            Check.badIndex(desk, "buy of no bond", () -> desk.buy(bond, 0, 0));
            Check.badIndex(desk, "sell of no bond", () -> desk.sell(bond, 0, 0));
        }
        for (int pieces : new int[] {-1, 0, 1001, Integer.MAX_VALUE, Integer.MIN_VALUE}) {
            Check.badArgument(desk, "buy of " + pieces, () -> desk.buy(0, pieces, 10000));
            Check.badArgument(desk, "sell of " + pieces, () -> desk.sell(0, pieces, 10000));
        }
        for (int price : new int[] {-1, 0, 30001, Integer.MAX_VALUE, Integer.MIN_VALUE}) {
            Check.badArgument(desk, "buy at " + price, () -> desk.buy(0, 1, price));
            Check.badArgument(desk, "sell at " + price, () -> desk.sell(0, 1, price));
            Check.badArgument(desk, "best at " + price, () -> desk.best(price));
        }
        for (int what : new int[] {-1, 12, Integer.MAX_VALUE, Integer.MIN_VALUE}) {
            Check.badIndex(desk, "count(" + what + ")", () -> desk.count(what));
        }
        for (int year : new int[] {-1, 2015, 2067, Integer.MAX_VALUE, Integer.MIN_VALUE}) {
            Check.badArgument(desk, "paysIn(" + year + ")", () -> desk.paysIn(year));
            Check.badArgument(desk, "ladder from " + year, () -> desk.ladder(year, 2066));
            Check.badArgument(desk, "ladder to " + year, () -> desk.ladder(2016, year));
        }
        Check.badArgument(desk, "ladder(2028, 2027)", () -> desk.ladder(2028, 2027));
    }
}
