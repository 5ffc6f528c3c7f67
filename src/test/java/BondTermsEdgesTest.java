import java.util.function.Supplier;

/** The boundary cases of the terms' part 2, each sentence in a test of its own. */
public final class BondTermsEdgesTest {
    public static void main(String[] args) {
        Edges.run(BondTermsEdgesTest.class);
    }

    private static void dates(int issue, int end, int f, int... due) {
        BondDesk desk = Desks.with(issue, end, 100, f, 0).get();
        Check.same("coupon dates from " + issue + " to " + end, due.length, () -> desk.bond(0, 7));
        for (int i = 0; i < due.length; i++) {
            int index = i;
            Check.same("coupon date " + i + " from " + issue + " to " + end, due[i], () -> desk.coupon(0, index, 0));
        }
    }

    private static void accrued(BondDesk desk, int date, int due) {
        Check.same("accrued(0, " + date + ")", due, () -> desk.accrued(0, date));
    }

    private static void tells(BondDesk desk, String name, int what, int due) {
        Check.same(name, due, () -> desk.bond(0, what));
    }

    private static void passes(BondDesk desk, int date, long due) {
        Check.same("what is paid up to " + date, due, () -> Desks.passTo(desk, date));
    }

    // One piece is held of a bond with coupons of 5000 on January 15 and July 15, till January 15, 2027.
    private static BondDesk half() {
        BondDesk desk = new BondDesk();
        Desks.half(desk);
        desk.buy(0, 1, 10000);
        return desk;
    }

    // ---- what a bond has

    @Says(at = "Terms 2", words = "There are at most 10, numbered from 0 in the order of their telling")
    static void tenBonds() {
        BondDesk desk = new BondDesk();
        for (int i = 0; i < 10; i++) {
            int rate = i;
            Check.same("its number", i, () -> desk.addBond(20250101, 20300101, rate, 1, 0));
        }
        for (int i = 0; i < 10; i++) {
            int number = i;
            Check.same("the rate of " + i, i, () -> desk.bond(number, 2));
        }
        Check.badState(desk, "the bond behind them", () -> desk.addBond(20250101, 20300101, 1, 1, 0));
        Check.badIndex(desk, "its number", () -> desk.bond(10, 2));
    }

    @Says(at = "Terms 2", words = "a rate, 0 to 2000, a number f of coupons in a year, 1, 2, 4 or 12, and a way to count, 0 to 3.")
    static void ratesAndPeriodsAndWays() {
        for (int rate = -1; rate <= 2001; rate++) {
            boolean fine = rate >= 0 && rate <= 2000;
            int asked = rate;
            Check.same("the rate " + rate, fine ? 0 : "throws.IllegalArgumentException",
                    () -> new BondDesk().addBond(20250101, 20300101, asked, 1, 0));
        }
        for (int f = 0; f <= 13; f++) {
            for (int way = -1; way <= 4; way++) {
                boolean fine = (f == 1 || f == 2 || f == 4 || f == 12) && way >= 0 && way <= 3;
                int asked = f;
                int counted = way;
                Check.same(f + " coupons by way " + way, fine ? 0 : "throws.IllegalArgumentException",
                        () -> new BondDesk().addBond(20250101, 20300101, 1, asked, counted));
            }
        }
    }

    @Says(at = "Terms 2", words = "A piece of a bond has a face of 100000 cents at first; its factor is 10000 at first")
    static void faceAtFirst() {
        BondDesk desk = Desks.with(20250101, 20300101, 0, 1, 0).get();
        tells(desk, "its factor", 5, 10000);
        tells(desk, "its face", 6, 100000);
    }

    @Says(at = "Terms 2", words = "its face is 100000 * factor / 10000")
    static void faceByFactor() {
        BondDesk desk = Desks.with(20250105, 20270105, 0, 12, 0).get();
        desk.setSink(0, 20160101, 4999);
        desk.pass(4);
        tells(desk, "its face behind the first part", 6, 50010);
        desk.setSink(0, 20160101, 5000);
        desk.pass(31);
        tells(desk, "the least factor", 5, 1);
        tells(desk, "the least face", 6, 10);
        desk.setSink(0, 20160101, 1);
        desk.pass(33);
        tells(desk, "nothing is left", 6, 0);
    }

    // ---- coupon dates

    @Says(at = "Terms 2", words = "and so on, that are later than the issue date")
    static void laterThanTheIssueDate() {
        dates(20250714, 20260715, 2, 20250715, 20260115, 20260715);
        dates(20250715, 20260715, 2, 20260115, 20260715);
        dates(20250716, 20260715, 2, 20260115, 20260715);
        dates(20260114, 20260715, 2, 20260115, 20260715);
        dates(20260115, 20260715, 2, 20260715);
        dates(20260714, 20260715, 2, 20260715);
    }

    @Says(at = "Terms 2", words = "the dates reached from it by moving it back by 12 / f months, twice as many")
    static void stepsOfMonths() {
        dates(20250201, 20270115, 1, 20260115, 20270115);
        dates(20260201, 20270115, 2, 20260715, 20270115);
        dates(20260801, 20270115, 4, 20261015, 20270115);
        dates(20261201, 20270115, 12, 20261215, 20270115);
    }

    @Says(at = "Terms 2", words = "if the end is the last day of its month, each of them is the last day of its month.")
    static void lastDaysOfMonths() {
        dates(20260901, 20270228, 2, 20270228);
        dates(20260830, 20270228, 2, 20260831, 20270228);
        dates(20260831, 20270228, 2, 20270228);
        dates(20260228, 20270228, 2, 20260831, 20270228);
        dates(20250201, 20280229, 1, 20250228, 20260228, 20270228, 20280229);
        dates(20240201, 20270228, 1, 20240229, 20250228, 20260228, 20270228);
        dates(20260901, 20270430, 4, 20261031, 20270131, 20270430);
        dates(20251201, 20261130, 2, 20260531, 20261130);
        dates(20261201, 20270331, 12, 20261231, 20270131, 20270228, 20270331);
    }

    @Says(at = "Terms 2", words = "if the end is the last day of its month")
    static void notTheLastDayOfTheMonth() {
        dates(20270801, 20280228, 2, 20270828, 20280228);
        dates(20260901, 20270429, 4, 20261029, 20270129, 20270429);
        dates(20260901, 20270330, 2, 20260930, 20270330);
        dates(20260201, 20260730, 12, 20260228, 20260330, 20260430, 20260530, 20260630, 20260730);
        dates(20250201, 20270227, 1, 20250227, 20260227, 20270227);
    }

    @Says(at = "Terms 2", words = "There are at most 120.")
    static void atMost120CouponDates() {
        BondDesk desk = Desks.with(20200301, 20300301, 1, 12, 0).get();
        tells(desk, "issued on the date one step more", 7, 120);
        Check.same("the first one", 20200401, () -> desk.coupon(0, 0, 0));
        Check.same("the last one", 20300301, () -> desk.coupon(0, 119, 0));
        Check.badIndex(desk, "no more", () -> desk.coupon(0, 120, 0));
        BondDesk other = Desks.with(20200302, 20300301, 1, 12, 0).get();
        tells(other, "issued a day later", 7, 120);
        Check.badArgument(other, "issued a day earlier", () -> other.addBond(20200229, 20300301, 1, 12, 0));
        BondDesk quarters = Desks.with(20360201, 20660201, 1, 4, 0).get();
        tells(quarters, "of 30 years", 7, 120);
        Check.badArgument(quarters, "issued a day earlier", () -> quarters.addBond(20360131, 20660201, 1, 4, 0));
    }

    @Says(at = "Terms 2", words = "They are numbered from 0, the earliest one first.")
    static void numberedFromTheEarliest() {
        dates(20260101, 20260102, 12, 20260102);
        dates(20251103, 20260102, 12, 20251202, 20260102);
        BondDesk desk = Desks.with(20200301, 20300301, 1, 12, 0).get();
        for (int i = 1; i < 120; i++) {
            int index = i;
            Check.same("in their order", true, () -> desk.coupon(0, index - 1, 0) < desk.coupon(0, index, 0));
        }
    }

    // ---- periods

    // Way 3 tells by what the days of the first period are divided: 181, 184, 365 or 31 days.
    @Says(at = "Terms 2", words = "The regular beginning of the first period is the date that is reached by one step more")
    static void regularBeginning() {
        accrued(Desks.with(20250301, 20270715, 2000, 2, 3).get(), 20250401, 100000 * 31 / 1810);
        accrued(Desks.with(20250801, 20270115, 2000, 2, 3).get(), 20250901, 100000 * 31 / 1840);
        accrued(Desks.with(20250301, 20270715, 2000, 1, 3).get(), 20250401, 200000 * 31 / 3650);
        accrued(Desks.with(20250820, 20270115, 1200, 12, 3).get(), 20250830, 10000 * 10 / 310);
    }

    // From August 31 to February 28 are 181 days, from August 28 on they would be 184.
    @Says(at = "Terms 2", words = {"if the end is the last day of its month, each of them is the last day of its month.",
        "The regular beginning of the first period is the date that is reached by one step more"})
    static void regularBeginningAtTheEndOfTheMonth() {
        BondDesk desk = Desks.with(20260930, 20270228, 2000, 2, 3).get();
        accrued(desk, 20261030, 100000 * 30 / 1810);
        Check.same("the first coupon", 100000 * 151 / 1810, () -> desk.coupon(0, 0, 3));
        BondDesk whole = Desks.with(20260831, 20270228, 2000, 2, 1).get();
        Check.same("issued on the regular beginning", 10000, () -> whole.coupon(0, 0, 3));
    }

    @Says(at = "Terms 2", words = "each other period begins with the coupon date before it.")
    static void otherPeriods() {
        BondDesk desk = Desks.with(20250301, 20270115, 1000, 2, 0).get();
        Check.same("the first one", 20250301, () -> desk.coupon(0, 0, 2));
        Check.same("the second one", 20250715, () -> desk.coupon(0, 1, 2));
        Check.same("the last one", 20260715, () -> desk.coupon(0, 3, 2));
    }

    @Says(at = "Terms 2", words = "The first period really begins with the issue date, if its regular beginning is earlier.")
    static void firstPeriod() {
        Check.same("a day behind", 20250116, () -> Desks.with(20250116, 20270115, 1, 2, 0).get().coupon(0, 0, 2));
        Check.same("on it", 20250115, () -> Desks.with(20250115, 20270115, 1, 2, 0).get().coupon(0, 0, 2));
        Check.same("a day ahead", 20250114, () -> Desks.with(20250114, 20270115, 1, 2, 0).get().coupon(0, 0, 2));
        Check.same("its end", 20250115, () -> Desks.with(20250114, 20270115, 1, 2, 0).get().coupon(0, 0, 0));
    }

    // ---- interest; at a rate of 360 (or of 365) a day is 10 cents

    private static void days30(int from, int to, int days) {
        accrued(Desks.with(from, 20270520, 360, 1, 0).get(), to, 10 * days);
    }

    @Says(at = "Terms 2", words = "360 * (year of b - year of a) + 30 * (month of b - month of a) + day of b - day of a")
    static void monthsOf30Days() {
        days30(20260215, 20260215, 0);
        days30(20260215, 20260216, 1);
        days30(20260215, 20260228, 13);
        days30(20260215, 20260301, 16);
        days30(20260215, 20260315, 30);
        days30(20260228, 20260301, 3);
        days30(20260630, 20260701, 1);
        days30(20260615, 20270101, 196);
        days30(20261231, 20270101, 1);
        days30(20261230, 20270101, 1);
    }

    // A face of 50010 cents, at 1999: 27.76 cents in a day of 360, 277.69 in 10 and 555.38 in 20.
    @Says(at = "Terms 2", words = "0: F * rate * n / 3600000, where n are the days by months of 30 days")
    static void interestIsCut() {
        BondDesk desk = Desks.with(20250105, 20270105, 1999, 2, 0).get();
        desk.setSink(0, 20160101, 4999);
        desk.pass(4);
        accrued(desk, 20260105, 0);
        accrued(desk, 20260106, 27);
        accrued(desk, 20260704, 4970);
        Desks.passTo(desk, 20260106);
        accrued(desk, 20260115, 277);
        accrued(desk, 20260125, 555);
    }

    @Says(at = "Terms 2", words = "where a day 31 of a counts as 30")
    static void day31OfA() {
        days30(20260131, 20260201, 1);
        days30(20260131, 20260228, 28);
        days30(20260131, 20260301, 31);
        days30(20260130, 20260301, 31);
        days30(20260129, 20260301, 32);
        days30(20260131, 20260330, 60);
    }

    @Says(at = "Terms 2", words = "and a day 31 of b as 30, if the day of a is 30 then")
    static void day31OfB() {
        days30(20260129, 20260131, 2);
        days30(20260130, 20260131, 0);
        days30(20260129, 20260331, 62);
        days30(20260130, 20260331, 60);
        days30(20260131, 20260331, 60);
        days30(20260201, 20260331, 60);
        days30(20260228, 20260331, 33);
        days30(20260228, 20260330, 32);
    }

    @Says(at = "Terms 2", words = "1: F * rate * days from a to b / 3600000")
    static void daysOfTheCalendarBy360() {
        BondDesk desk = Desks.with(20260131, 20270520, 360, 1, 1).get();
        accrued(desk, 20260131, 0);
        accrued(desk, 20260201, 10);
        accrued(desk, 20260331, 590);
        BondDesk year = Desks.with(20260131, 20280131, 360, 1, 1).get();
        accrued(year, 20270130, 3640);
    }

    @Says(at = "Terms 2", words = "2: F * rate * days from a to b / 3650000")
    static void daysOfTheCalendarBy365() {
        BondDesk desk = Desks.with(20260131, 20280131, 365, 1, 2).get();
        accrued(desk, 20260131, 0);
        accrued(desk, 20260201, 10);
        accrued(desk, 20260331, 590);
        accrued(desk, 20270130, 3640);
    }

    // A face of 70010 at 1093 in 43 days, and one of 50010 at 101 in 99 days: 10 in 3600000 (3650000) less than whole cents.
    @Says(at = "Terms", words = "/ is cut towards 0")
    static void interestJustBelowACent() {
        BondDesk desk = Desks.with(20250105, 20270105, 1093, 1, 1).get();
        desk.addBond(20250105, 20270105, 101, 1, 2);
        desk.setSink(0, 20160101, 2999);
        desk.setSink(1, 20160101, 4999);
        desk.pass(4);
        Check.same("913.999997 cents", 913, () -> desk.accrued(0, 20260217));
        Check.same("136.999997 cents", 136, () -> desk.accrued(1, 20260414));
        Check.same("a day more", 935, () -> desk.accrued(0, 20260218));
        Check.same("a day more", 138, () -> desk.accrued(1, 20260415));
    }

    // The period from July 15, 2027, to January 15, 2028, has 184 days, the next one, with a February 29, 182.
    @Says(at = "Terms 2", words = "3: F * rate * days from a to b / (f * days from p to q * 10000)")
    static void daysOfThePeriod() {
        BondDesk desk = Desks.with(20270715, 20280715, 1840, 2, 3).get();
        accrued(desk, 20270716, 50);
        accrued(desk, 20280114, 9150);
        BondDesk leap = Desks.with(20270715, 20280715, 1820, 2, 3).get();
        accrued(leap, 20280116, 50);
        accrued(leap, 20280714, 9050);
        BondDesk year = Desks.with(20270715, 20290715, 732, 1, 3).get();
        accrued(year, 20270716, 20);
        accrued(year, 20280714, 7300);
    }

    // ---- coupon

    private static void firstCoupon(int issue, int way, int due) {
        BondDesk desk = Desks.with(issue, 20270715, 1000, 2, way).get();
        Check.same("the first coupon by way " + way + ", issued on " + issue, due, () -> desk.coupon(0, 0, 3));
    }

    @Says(at = "Terms 2", words = "On the first coupon date, if the first period begins with the issue date,"
            + " and its regular beginning is earlier: the interest from the issue date")
    static void firstCouponFromTheIssueDate() {
        int[] dayBehind = {4972, 5000, 4931, 4972};
        int[] dayAhead = {27, 27, 27, 27};
        for (int way = 0; way < 4; way++) {
            firstCoupon(20250116, way, dayBehind[way]);
            firstCoupon(20250714, way, dayAhead[way]);
        }
    }

    @Says(at = "Terms 2", words = "otherwise, and on all others, F * rate / (10000 * f).")
    static void otherCoupons() {
        for (int way = 0; way < 4; way++) {
            firstCoupon(20250115, way, 5000);
            BondDesk desk = Desks.with(20250116, 20270715, 1000, 2, way).get();
            for (int i = 1; i < 5; i++) {
                int index = i;
                Check.same("coupon " + i, 5000, () -> desk.coupon(0, index, 3));
            }
        }
        int[] fs = {1, 2, 4, 12};
        int[] due = {19990, 9995, 4997, 1665};
        for (int i = 0; i < 4; i++) {
            BondDesk desk = Desks.with(20250115, 20270115, 1999, fs[i], 0).get();
            Check.same("of " + fs[i] + " in a year", due[i], () -> desk.coupon(0, 0, 3));
        }
        Check.same("at a rate of 0", 0, () -> Desks.with(20250115, 20270115, 0, 1, 0).get().coupon(0, 0, 3));
    }

    @Says(at = "Terms 2", words = "F is the face ahead of this date.")
    static void couponByTheFaceAhead() {
        BondDesk desk = half();
        desk.setSink(0, 20160101, 5000);
        passes(desk, 20260115, 5000 + 50000);
        passes(desk, 20260715, 2500 + 50000);
    }

    // Of a face of 50010 cents, at 999 in a hundred thousandths: 2497.9995, cut.
    @Says(at = "Terms 2", words = "F * rate / (10000 * f)")
    static void couponIsCut() {
        BondDesk desk = Desks.with(20250105, 20270105, 999, 2, 0).get();
        desk.buy(0, 1, 10000);
        desk.setSink(0, 20160101, 4999);
        passes(desk, 20260105, 4995 + 49990);
        desk.setSink(0, 20160101, 0);
        passes(desk, 20260706, 2497);
    }

    // ---- accrued

    @Says(at = "Terms 2", words = "Accrued on a date that is the issue date or later")
    static void accruedFromTheIssueDateOn() {
        BondDesk desk = Desks.with(20260210, 20270115, 720, 2, 0).get();
        accrued(desk, 20160101, 0);
        accrued(desk, 20260115, 0);
        accrued(desk, 20260209, 0);
        accrued(desk, 20260210, 0);
        accrued(desk, 20260211, 20);
    }

    @Says(at = "Terms 2", words = "and earlier than the end")
    static void accruedUpToTheEnd() {
        BondDesk desk = Desks.with(20250115, 20270115, 720, 2, 0).get();
        accrued(desk, 20270113, 20 * 178);
        accrued(desk, 20270114, 20 * 179);
        accrued(desk, 20270115, 0);
        accrued(desk, 20270116, 0);
        accrued(desk, 20661231, 0);
    }

    @Says(at = "Terms 2", words = "of a bond that is not gone")
    static void accruedOfOneThatIsGone() {
        BondDesk desk = Desks.with(20250115, 20270115, 720, 2, 0).get();
        desk.setCall(0, 20260115, 8000);
        desk.pass(13);
        accrued(desk, 20260116, 20);
        accrued(desk, 20260114, 20 * 179);
        desk.pass(1);
        tells(desk, "it is gone", 9, 2);
        accrued(desk, 20260116, 0);
        accrued(desk, 20260114, 0);
    }

    @Says(at = "Terms 2", words = "the beginning of the period in which it lies (the latest coupon date, if it is one)")
    static void accruedOnACouponDate() {
        BondDesk desk = Desks.with(20250210, 20270115, 720, 2, 0).get();
        accrued(desk, 20250714, 20 * 154);
        accrued(desk, 20250715, 0);
        accrued(desk, 20250716, 20);
        accrued(desk, 20260114, 20 * 179);
        accrued(desk, 20260115, 0);
        accrued(desk, 20260116, 20);
        accrued(desk, 20260714, 20 * 179);
        accrued(desk, 20260715, 0);
        accrued(desk, 20260716, 20);
    }

    @Says(at = "Terms 2", words = "to it, for the face now; otherwise 0.")
    static void accruedForTheFaceNow() {
        BondDesk desk = Desks.with(20250115, 20270115, 720, 2, 0).get();
        desk.setSink(0, 20260115, 2500);
        desk.pass(13);
        accrued(desk, 20260116, 20);
        accrued(desk, 20260716, 20);
        desk.pass(1);
        accrued(desk, 20260116, 15);
        accrued(desk, 20260716, 15);
        accrued(desk, 20250116, 15);
    }

    // ---- sinking fund

    private static void sinks(int from, long due) {
        BondDesk desk = half();
        desk.setSink(0, from, 1000);
        passes(desk, 20260115, due);
    }

    @Says(at = "Terms 2", words = "On each coupon date from a date on, but the end, the factor becomes less by a part")
    static void sinksFromADateOn() {
        sinks(20160101, 5000 + 10000);
        sinks(20260114, 5000 + 10000);
        sinks(20260115, 5000 + 10000);
        sinks(20260116, 5000);
        sinks(20661231, 5000);
    }

    @Says(at = "Terms 2", words = "Sinking fund. On each coupon date from a date on, but the end")
    static void doesNotSinkOnTheEnd() {
        BondDesk desk = half();
        desk.setSink(0, 20260715, 1000);
        passes(desk, 20260714, 5000);
        passes(desk, 20260715, 5000 + 10000);
        passes(desk, 20270115, 4500 + 90000);
        Check.same("all for sinking", 10000L, () -> desk.count(8));
        Check.same("all for ends", 90000L, () -> desk.count(10));
        tells(desk, "the factor stays", 5, 9000);
        BondDesk other = half();
        other.setSink(0, 20270115, 1000);
        passes(other, 20270115, 15000 + 100000);
        Check.same("none from the end on", 0L, () -> other.count(8));
    }

    @Says(at = "Terms 2", words = "(at most to 0)")
    static void sinksAtMostTo0() {
        BondDesk desk = Desks.with(20250105, 20270105, 0, 12, 0).get();
        desk.buy(0, 1, 10000);
        desk.setSink(0, 20160101, 3333);
        passes(desk, 20260305, 99990);
        tells(desk, "the factor", 5, 1);
        tells(desk, "it is there", 9, 0);
        passes(desk, 20260406, 10);
        tells(desk, "nothing is left", 5, 0);
        tells(desk, "it ended", 9, 1);
        Check.same("all for sinking", 100000L, () -> desk.count(8));
    }

    // 5000 twice: the whole of what is left is a part too.
    @Says(at = "Terms 2", words = "the factor becomes less by a part (at most to 0), and the face that goes is paid")
    static void sinksExactlyTo0() {
        BondDesk desk = half();
        desk.setSink(0, 20160101, 5000);
        passes(desk, 20260715, 5000 + 50000 + 2500 + 50000);
        tells(desk, "nothing is left", 5, 0);
        tells(desk, "it ended", 9, 1);
        Check.same("none for ends", 0L, () -> desk.count(10));
    }

    // ---- call

    private static void calls(int from, int due) {
        BondDesk desk = half();
        desk.setCall(0, from, 8000);
        Desks.passTo(desk, 20260115);
        tells(desk, "called from " + from + " on", 9, due);
    }

    @Says(at = "Terms 2", words = "Call. On each coupon date from a date on")
    static void callsFromADateOn() {
        calls(20160101, 2);
        calls(20260114, 2);
        calls(20260115, 2);
        calls(20260116, 0);
        calls(20661231, 0);
    }

    @Says(at = "Terms 2", words = "Call. On each coupon date from a date on, but the end")
    static void doesNotCallOnTheEnd() {
        BondDesk desk = half();
        desk.setCall(0, 20260716, 8000);
        passes(desk, 20260715, 10000);
        tells(desk, "it is there", 9, 0);
        passes(desk, 20270115, 5000 + 100000);
        tells(desk, "it ended", 9, 1);
        Check.same("none for calls", 0L, () -> desk.count(9));
    }

    // At 8000 less would be paid for what is left than it is worth; the coupon and the part go first.
    @Says(at = "Terms 2", words = "behind the coupon and the sinking fund, the issuer calls the bond")
    static void callsBehindTheSinkingFund() {
        BondDesk desk = half();
        desk.setSink(0, 20160101, 4000);
        desk.setCall(0, 20260115, 8000);
        passes(desk, 20260115, 5000 + 40000 + 48000);
        Check.same("for coupons", 5000L, () -> desk.count(7));
        Check.same("for sinking", 40000L, () -> desk.count(8));
        Check.same("for calls", 48000L, () -> desk.count(9));
        tells(desk, "the factor stays", 5, 6000);
    }

    // Behind January 9, 2026, comes one payment of 110000, at a rate of 0.
    private static void callsAt(int price, int due) {
        BondDesk desk = Desks.with(20250109, 20270109, 1000, 1, 0).get();
        desk.setRate(0);
        desk.setCall(0, 20160101, price);
        desk.pass(8);
        tells(desk, "called at " + price, 9, due);
    }

    @Says(at = "Terms 2", words = "is more than face * call price / 10000")
    static void callsIfWorthMore() {
        callsAt(10998, 2);
        callsAt(10999, 2);
        callsAt(11000, 0);
        callsAt(11001, 0);
    }

    // A face of 10 cents is worth 11 a year ahead of its end: 10 * 10999 / 10000 is cut to 10.
    @Says(at = "Terms 2", words = "is more than face * call price / 10000; this is paid then")
    static void callPriceIsCut() {
        for (int price = 10999; price <= 11000; price++) {
            BondDesk desk = Desks.with(20250105, 20290105, 1000, 1, 0).get();
            desk.buy(0, 1, 10000);
            desk.setRate(0);
            desk.setSink(0, 20160101, 4999);
            desk.pass(4);
            desk.setSink(0, 20160101, 5000);
            Desks.passTo(desk, 20270105);
            desk.setSink(0, 20160101, 0);
            desk.setCall(0, 20280105, price);
            Check.same("its worth ahead", 12, () -> desk.worth(0, 0));
            passes(desk, 20280105, price == 10999 ? 1 + 10 : 1);
            tells(desk, "called at " + price, 9, price == 10999 ? 2 : 0);
        }
    }

    // Saturday, January 10, 2026: at 999 its worth is more than its face, at 1000 it is not.
    private static Supplier<BondDesk> dueOnSaturday() {
        return () -> {
            BondDesk desk = Desks.with(20250110, 20270110, 1000, 1, 0).get();
            desk.setCall(0, 20160101, 10000);
            return desk;
        };
    }

    @Says(at = "Terms 2", words = "at the refinancing rate that is set when this is looked at")
    static void callsAtTheRateThen() {
        for (int rate = 999; rate <= 1000; rate++) {
            BondDesk desk = dueOnSaturday().get();
            desk.setRate(rate == 999 ? 2000 : 0);
            desk.pass(10);
            desk.setRate(rate);
            desk.pass(1);
            tells(desk, "looked at at a rate of " + rate, 9, rate == 999 ? 2 : 0);
        }
    }

    // On Monday, two days nearer to the end, it would be worth 100049 at a rate of 1000.
    @Says(at = "Terms 2", words = "if its worth at this date (see 3)")
    static void callsByTheWorthAtThatDate() {
        BondDesk desk = dueOnSaturday().get();
        desk.setRate(1000);
        desk.pass(11);
        tells(desk, "it is there", 9, 0);
        tells(desk, "it was looked at", 8, 1);
        Check.same("its worth on Monday", 100049, () -> desk.worth(0, 1000));
    }

    @Says(at = "Terms 2", words = "this is paid then, and the bond is gone.")
    static void calledIsGone() {
        BondDesk desk = half();
        desk.setCall(0, 20260115, 8001);
        passes(desk, 20260115, 5000 + 80010);
        tells(desk, "it was called", 9, 2);
        tells(desk, "no next one", 8, -1);
        passes(desk, 20270115, 0);
    }

    // ---- end

    @Says(at = "Terms 2", words = "End. On the end the face is paid with the coupon, and the bond is gone")
    static void endsOnTheEnd() {
        BondDesk desk = half();
        passes(desk, 20270114, 10000);
        tells(desk, "it is there on the eve", 9, 0);
        tells(desk, "its next one is the end", 8, 3);
        passes(desk, 20270115, 5000 + 100000);
        tells(desk, "it ended", 9, 1);
        tells(desk, "no next one", 8, -1);
        Check.same("for ends", 100000L, () -> desk.count(10));
        passes(desk, 20280115, 0);
    }

    @Says(at = "Terms 2", words = "it is gone, too, when its factor is 0.")
    static void goneAtFactor0() {
        for (int part = 4999; part <= 5000; part++) {
            BondDesk desk = half();
            desk.setSink(0, 20160101, part);
            Desks.passTo(desk, 20260715);
            tells(desk, "the factor behind two parts of " + part, 5, 10000 - 2 * part);
            tells(desk, "gone behind two parts of " + part, 9, part == 5000 ? 1 : 0);
            tells(desk, "the next one", 8, part == 5000 ? -1 : 3);
            tells(desk, "pieces held", 10, part == 5000 ? 0 : 1);
        }
    }

    // Its sinking fund leaves nothing: it ended, and can't be called any more on that date.
    @Says(at = "Terms 2", words = {"it is gone, too, when its factor is 0.", "behind the coupon and the sinking fund"})
    static void notCalledAtFactor0() {
        BondDesk desk = half();
        desk.setSink(0, 20160101, 5000);
        desk.setCall(0, 20260715, 8000);
        desk.setRate(0);
        Desks.passTo(desk, 20260715);
        tells(desk, "it ended", 9, 1);
        Check.same("none for calls", 0L, () -> desk.count(9));
    }

    @Says(at = "Terms 2", words = "(A bond that is gone keeps its factor; no pieces of it are held.)")
    static void goneKeepsItsFactor() {
        BondDesk desk = half();
        Desks.half(desk);
        desk.buy(1, 7, 10000);
        desk.setSink(0, 20160101, 1000);
        desk.setCall(1, 20260715, 8000);
        Desks.passTo(desk, 20270115);
        tells(desk, "the factor of one that ended", 5, 8000);
        tells(desk, "its face", 6, 80000);
        tells(desk, "its pieces", 10, 0);
        Check.same("the factor of one that was called", 10000, () -> desk.bond(1, 5));
        Check.same("its pieces", 0, () -> desk.bond(1, 10));
        Check.same("all pieces", 0L, () -> desk.count(6));
        Desks.passTo(desk, 20280115);
        tells(desk, "the factor a year later", 5, 8000);
    }

    // ---- working days

    @Says(at = "Terms 2", words = "What falls on a day that is no working day is looked at, and paid, on the next working day")
    static void fallsOnNoWorkingDay() {
        BondDesk desk = Desks.with(20250109, 20260710, 1200, 12, 0).get();
        desk.addBond(20250110, 20260710, 1200, 12, 0);
        desk.addBond(20250111, 20260711, 1200, 12, 0);
        for (int i = 0; i < 3; i++) {
            desk.buy(i, 1, 10000);
        }
        passes(desk, 20260109, 0);
        passes(desk, 20260110, 0);
        passes(desk, 20260111, 0);
        passes(desk, 20260112, 3000);
        passes(desk, 20260113, 0);
        desk.addHoliday(20260210);
        passes(desk, 20260210, 0);
        passes(desk, 20260211, 3000);
    }

    @Says(at = "Terms 2", words = "is looked at, and paid, on the next working day")
    static void holidayToldOnTheDay() {
        BondDesk desk = half();
        passes(desk, 20260115, 5000);
        desk.addHoliday(20260115);
        passes(desk, 20260116, 0);
        desk.addHoliday(20260715);
        passes(desk, 20260715, 0);
        desk.addHoliday(20260716);
        passes(desk, 20260717, 5000);
    }

    // 30 holidays from January 30, 2026, on hold up two coupon dates of a month: March 13 is the next day.
    private static BondDesk heldUp() {
        BondDesk desk = Desks.with(20260101, 20260701, 1200, 12, 0).get();
        int date = 20260130;
        for (int i = 0; i < 30; i++) {
            desk.addHoliday(date);
            date = desk.working(date);
        }
        desk.buy(0, 1, 10000);
        return desk;
    }

    @Says(at = "Terms 2", words = "by numbers of bonds, and of one in the order of its coupon dates.")
    static void heldUpInTheirOrder() {
        BondDesk desk = heldUp();
        desk.setSink(0, 20160101, 1000);
        passes(desk, 20260312, 0);
        passes(desk, 20260313, 1000 + 10000 + 900 + 10000);
        tells(desk, "the next one", 8, 2);
        BondDesk called = heldUp();
        called.setCall(0, 20260201, 8000);
        passes(called, 20260313, 1000 + 80000);
        BondDesk calledLater = heldUp();
        calledLater.setCall(0, 20260202, 8000);
        passes(calledLater, 20260313, 1000 + 1000 + 80000);
        BondDesk gone = heldUp();
        gone.setSink(0, 20160101, 5000);
        passes(gone, 20260313, 1000 + 50000 + 500 + 50000);
        tells(gone, "it ended", 9, 1);
    }
}
