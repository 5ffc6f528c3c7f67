/** The boundary cases of promises 21 to 25, each sentence in a test of its own. */
public final class TellsEdgesTest {
    private static final int[] NO_YEARS = {2015, 2067, 0, -2026, 20260101, Integer.MAX_VALUE, Integer.MIN_VALUE};

    public static void main(String[] args) {
        Edges.run(TellsEdgesTest.class);
    }

    private static void pays(BondDesk desk, int year, long due) {
        Check.same("paysIn(" + year + ") on " + desk.count(0), due, () -> desk.paysIn(year));
    }

    private static void rungs(BondDesk desk, int from, int to, int due) {
        Check.same("ladder(" + from + ", " + to + ") on " + desk.count(0), due, () -> desk.ladder(from, to));
    }

    private static void best(BondDesk desk, int price, int due) {
        Check.same("best(" + price + ") on " + desk.count(0), due, () -> desk.best(price));
    }

    private static void years(BondDesk desk, double due) {
        Check.same("years() on " + desk.count(0), due, desk::years);
    }

    // Bonds without coupons, issued on January 1, 2026; their worth is their face, at a rate of 0.
    private static BondDesk ending(int... ends) {
        BondDesk desk = new BondDesk();
        desk.setRate(0);
        for (int end : ends) {
            desk.addBond(20260101, end, 0, 1, 0);
        }
        return desk;
    }

    // A bond that ends on January 5, 2027, of whose face the second part leaves some, on February 5, 2026.
    private static BondDesk leaving(int secondPart) {
        BondDesk desk = new BondDesk();
        desk.addBond(20250105, 20270105, 0, 12, 0);
        desk.setRate(0);
        desk.setSink(0, 20160101, 4990);
        desk.pass(4);
        desk.setSink(0, 20160101, secondPart);
        desk.pass(31);
        desk.setSink(0, 20160101, 0);
        return desk;
    }

    private static BondDesk called() {
        BondDesk desk = ending(20270115);
        desk.addBond(20250115, 20270115, 1000, 2, 0);
        desk.setCall(1, 20160101, 8000);
        desk.pass(14);
        return desk;
    }

    // ---- Promise 21

    @Says(at = "Promise 21", words = "all payments of later coupon dates of this year")
    static void firstAndLastDayOfAYear() {
        BondDesk desk = new BondDesk();
        desk.addBond(20251231, 20271231, 100, 1, 0);
        desk.addBond(20250101, 20280101, 200, 1, 0);
        desk.addHoliday(20261231);
        desk.buy(0, 1, 10000);
        desk.buy(1, 1, 10000);
        pays(desk, 2025, 0);
        pays(desk, 2026, 1000);
        pays(desk, 2027, 2000 + 101000);
        pays(desk, 2028, 102000);
        pays(desk, 2029, 0);
    }

    @Says(at = "Promise 21", words = "Returns what pieces held will be paid in it from now on")
    static void fromNowOn() {
        BondDesk desk = new BondDesk();
        Desks.half(desk);
        pays(desk, 2026, 0);
        desk.buy(0, 1000, 10000);
        pays(desk, 2026, 10000000);
        Desks.passTo(desk, 20260114);
        pays(desk, 2026, 10000000);
        Desks.passTo(desk, 20260115);
        pays(desk, 2026, 5000000);
        Desks.passTo(desk, 20260715);
        pays(desk, 2026, 0);
        pays(desk, 2027, 105000000);
        Desks.passTo(desk, 20270114);
        pays(desk, 2027, 105000000);
        Desks.passTo(desk, 20270115);
        pays(desk, 2027, 0);
    }

    // The coupon of Saturday, January 3, is no later one on that day, though it is not looked at yet.
    @Says(at = "Promise 21", words = "of later coupon dates")
    static void laterThanASaturday() {
        BondDesk desk = Desks.with(20250703, 20260703, 1000, 2, 0).get();
        desk.buy(0, 1, 10000);
        desk.pass(1);
        pays(desk, 2026, 5000 + 105000);
        desk.pass(1);
        pays(desk, 2026, 105000);
        Check.same("what is paid on Monday", 5000L, () -> desk.pass(2));
        pays(desk, 2026, 105000);
    }

    @Says(at = "Promise 21", words = "by the factor now and without calls.")
    static void byTheFactorNow() {
        BondDesk desk = new BondDesk();
        Desks.half(desk);
        desk.buy(0, 1, 10000);
        desk.setCall(0, 20160101, 8000);
        pays(desk, 2027, 105000);
        desk.setSink(0, 20260715, 5000);
        pays(desk, 2026, 5000 + 5000 + 50000);
        pays(desk, 2027, 52500);
        desk.setSink(0, 20160101, 5000);
        pays(desk, 2026, 5000 + 50000 + 2500 + 50000);
        pays(desk, 2027, 0);
        desk.setCall(0, 20160101, 0);
        Desks.passTo(desk, 20260115);
        pays(desk, 2026, 2500 + 50000);
    }

    @Says(at = "Promise 21", words = "Returns what pieces held will be paid")
    static void nothingIsHeld() {
        for (int year = 2016; year <= 2066; year++) {
            pays(new BondDesk(), year, 0);
            pays(ending(20270101, 20661101), year, 0);
        }
        BondDesk called = called();
        pays(called, 2026, 0);
        pays(called, 2027, 0);
    }

    @Says(at = "Promise 21", words = "if year is not 2016 to 2066")
    static void paysInNoYear() {
        for (int year : NO_YEARS) {
            Check.refusedArgument("paysIn(" + year + ")", Desks::busy, desk -> desk.paysIn(year));
        }
        BondDesk desk = ending(20661101);
        desk.buy(0, 1, 10000);
        pays(desk, 2016, 0);
        pays(desk, 2066, 100000);
    }

    // ---- Promise 22

    @Says(at = "Promise 22", words = "for each year from one to another one a rung")
    static void rungsOfYears() {
        BondDesk desk = ending(20270101, 20281231, 20290101, 20661101);
        rungs(desk, 2027, 2027, 2000);
        rungs(desk, 2028, 2028, 2000);
        rungs(desk, 2028, 2029, 1000);
        rungs(desk, 2029, 2029, 2000);
        rungs(desk, 2066, 2066, 2000);
        rungs(ending(20271231, 20280101, 20290615), 2027, 2029, 666);
    }

    @Says(at = "Promise 22", words = "-1 if a rung is missing.")
    static void missingRungs() {
        BondDesk desk = ending(20270101, 20281231, 20290101);
        rungs(desk, 2026, 2026, -1);
        rungs(desk, 2026, 2027, -1);
        rungs(desk, 2027, 2028, 1000);
        rungs(desk, 2027, 2029, 666);
        rungs(desk, 2029, 2030, -1);
        rungs(desk, 2030, 2030, -1);
        rungs(desk, 2016, 2066, -1);
        rungs(ending(20270101, 20290101), 2027, 2029, -1);
        rungs(new BondDesk(), 2016, 2016, -1);
        rungs(new BondDesk(), 2066, 2066, -1);
    }

    @Says(at = "Promise 22", words = "the bond that is there")
    static void rungThatIsThere() {
        BondDesk called = called();
        rungs(called, 2027, 2027, 2000);
        BondDesk only = new BondDesk();
        only.addBond(20250115, 20270115, 1000, 2, 0);
        only.setCall(0, 20160101, 8000);
        Desks.passTo(only, 20260114);
        rungs(only, 2027, 2027, 200000000 / only.worth(0, 300));
        Desks.passTo(only, 20260115);
        rungs(only, 2027, 2027, -1);
    }

    @Says(at = "Promise 22", words = "is issued")
    static void rungThatIsIssued() {
        BondDesk desk = new BondDesk();
        desk.setRate(0);
        desk.addBond(20260102, 20270102, 0, 1, 0);
        rungs(desk, 2027, 2027, -1);
        desk.pass(1);
        rungs(desk, 2027, 2027, 2000);
        desk.addBond(20260102, 20280102, 0, 1, 0);
        rungs(desk, 2027, 2028, 1000);
        desk.addBond(20260103, 20290103, 0, 1, 0);
        rungs(desk, 2029, 2029, -1);
    }

    // January 3, 2026, is a Saturday: the bond that ends on it is not looked at yet.
    @Says(at = "Promise 22", words = "and ends in this year, later than today")
    static void rungThatEndsLaterThanToday() {
        BondDesk desk = ending(20260103, 20260106);
        desk.addBond(20250103, 20270103, 0, 12, 0);
        desk.pass(1);
        rungs(desk, 2026, 2026, 2000);
        rungs(desk, 2026, 2027, 1000);
        BondDesk saturday = ending(20260103);
        saturday.pass(1);
        rungs(saturday, 2026, 2026, 2000);
        saturday.pass(1);
        Check.same("it is there", 0, () -> saturday.bond(0, 9));
        rungs(saturday, 2026, 2026, -1);
        saturday.pass(1);
        rungs(saturday, 2026, 2026, -1);
        desk.pass(1);
        rungs(desk, 2026, 2026, 2000);
    }

    @Says(at = "Promise 22", words = "with the least full price of a piece at a price that is its worth less what is accrued"
            + " (so its worth, at the refinancing rate)")
    static void leastWorth() {
        BondDesk desk = new BondDesk();
        desk.addBond(20260101, 20270101, 1000, 1, 0);
        desk.addBond(20260101, 20270101, 0, 1, 0);
        desk.addBond(20260101, 20270101, 2000, 1, 0);
        desk.setRate(0);
        rungs(desk, 2027, 2027, 2000);
        desk.setRate(1000);
        rungs(desk, 2027, 2027, 200000000 / 90909);
        desk.setRate(2000);
        rungs(desk, 2027, 2027, 200000000 / 83333);
        BondDesk coupons = new BondDesk();
        coupons.addBond(20250701, 20260701, 2000, 1, 0);
        coupons.setRate(0);
        rungs(coupons, 2026, 2026, 200000000 / 120000);
    }

    @Says(at = "Promise 22", words = "of several the one with the smallest number.")
    static void severalOfTheLeastWorth() {
        rungs(ending(20270101, 20270101, 20271231), 2027, 2027, 2000);
        rungs(ending(20270101, 20280101, 20270101, 20280101), 2027, 2028, 1000);
        BondDesk desk = ending(20270101);
        desk.addBond(20260101, 20270101, 1, 1, 0);
        desk.addBond(20260101, 20270101, 0, 1, 0);
        rungs(desk, 2027, 2027, 2000);
    }

    @Says(at = "Promise 22", words = "cash / all their full prices, added, but at most 1000000")
    static void atMost1000000() {
        rungs(leaving(4991), 2027, 2027, 1000000);
        rungs(leaving(4990), 2027, 2027, 1000000);
        rungs(leaving(4989), 2027, 2027, 952380);
        BondDesk two = leaving(4990);
        two.addBond(20260201, 20280201, 0, 1, 0);
        rungs(two, 2027, 2028, 200000000 / 100200);
        BondDesk desk = ending(20270101, 20280101);
        desk.buy(0, 1000, 10000);
        rungs(desk, 2027, 2027, 1000);
        desk.buy(1, 1000, 10000);
        rungs(desk, 2027, 2027, 0);
    }

    // A bond of whose face 10 cents are left, on January 5, 2027.
    private static BondDesk tenCents(int end) {
        BondDesk desk = Desks.with(20250105, end, 0, 1, 0).get();
        desk.setSink(0, 20160101, 4999);
        desk.pass(4);
        desk.setSink(0, 20160101, 5000);
        Desks.passTo(desk, 20270105);
        desk.setSink(0, 20160101, 0);
        Check.same("its face", 10, () -> desk.bond(0, 6));
        return desk;
    }

    @Says(at = "Promise 22", words = "and 0 if these are 0")
    static void pricesOf0() {
        BondDesk desk = tenCents(20660105);
        desk.setRate(600);
        Check.same("its worth at 600", 1, () -> desk.worth(0, 600));
        rungs(desk, 2066, 2066, 1000000);
        desk.setRate(700);
        Check.same("its worth at 700", 0, () -> desk.worth(0, 700));
        rungs(desk, 2066, 2066, 0);
        rungs(desk, 2065, 2066, -1);
        desk.addBond(20270105, 20650105, 0, 1, 0);
        Check.same("the worth of the other one", 7645, () -> desk.worth(1, 700));
        rungs(desk, 2065, 2066, 200000000 / 7645);
        BondDesk earlier = tenCents(20560105);
        earlier.setRate(2000);
        rungs(earlier, 2056, 2056, 0);
        rungs(earlier, 2056, 2057, -1);
        rungs(earlier, 2055, 2056, -1);
    }

    @Says(at = "Promise 22", words = {"with the least full price of a piece", "and 0 if these are 0"})
    static void leastPriceOf0() {
        BondDesk desk = tenCents(20660105);
        desk.setRate(2000);
        desk.addBond(20270105, 20660105, 2000, 1, 0);
        rungs(desk, 2066, 2066, 0);
        BondDesk other = Desks.with(20260101, 20660401, 2000, 1, 0).get();
        other.addBond(20250105, 20660105, 0, 1, 0);
        other.setSink(1, 20160101, 4999);
        other.pass(4);
        other.setSink(1, 20160101, 5000);
        Desks.passTo(other, 20270105);
        other.setSink(1, 20160101, 0);
        other.setRate(2000);
        rungs(other, 2066, 2066, 0);
    }

    @Says(at = "Promise 22", words = "(nothing is changed; pieces held and working days do not matter)")
    static void nothingIsChanged() {
        BondDesk desk = Desks.busy();
        desk.ladder(2027, 2028);
        desk.ladder(2016, 2066);
        Check.same("the desk behind it", Desks.portrait(Desks.busy()), Desks.portrait(desk));
        BondDesk held = ending(20270101, 20270601);
        rungs(held, 2027, 2027, 2000);
        held.buy(0, 1000, 1);
        rungs(held, 2027, 2027, 1999);
        held.addHoliday(20260101);
        rungs(held, 2027, 2027, 1999);
        held.pass(2);
        rungs(held, 2027, 2027, 1999);
    }

    @Says(at = "Promise 22", words = "if from is not 2016 to 2066")
    static void ladderFromNoYear() {
        for (int year : NO_YEARS) {
            Check.refusedArgument("ladder(" + year + ", 2066)", Desks::busy, desk -> desk.ladder(year, 2066));
            Check.refusedArgument("ladder of " + year + " alone", Desks::busy, desk -> desk.ladder(year, year));
        }
        rungs(Desks.busy(), 2016, 2066, -1);
        rungs(Desks.busy(), 2066, 2066, -1);
        rungs(ending(20661101), 2066, 2066, 2000);
    }

    @Says(at = "Promise 22", words = "or to is not from to 2066")
    static void ladderToNoYear() {
        Check.refusedArgument("ladder(2016, 2015)", Desks::busy, desk -> desk.ladder(2016, 2015));
        Check.refusedArgument("ladder(2027, 2026)", Desks::busy, desk -> desk.ladder(2027, 2026));
        Check.refusedArgument("ladder(2066, 2065)", Desks::busy, desk -> desk.ladder(2066, 2065));
        Check.refusedArgument("ladder(2066, 2016)", Desks::busy, desk -> desk.ladder(2066, 2016));
        for (int year : new int[] {2067, Integer.MAX_VALUE, Integer.MIN_VALUE, 0}) {
            Check.refusedArgument("ladder(2027, " + year + ")", Desks::busy, desk -> desk.ladder(2027, year));
        }
        rungs(Desks.busy(), 2016, 2016, -1);
        rungs(ending(20270101), 2027, 2027, 2000);
    }

    // ---- Promise 23

    @Says(at = "Promise 23", words = "Looks for the bond that yields the most at a price.")
    static void yieldsTheMost() {
        BondDesk desk = new BondDesk();
        desk.addBond(20260101, 20270101, 300, 1, 0);
        desk.addBond(20260101, 20270101, 301, 1, 0);
        desk.addBond(20260101, 20270101, 299, 1, 0);
        best(desk, 10000, 1);
        desk.addBond(20260101, 20270101, 302, 1, 0);
        best(desk, 10000, 3);
    }

    @Says(at = "Promise 23", words = "of several the one with the smallest number")
    static void severalThatYieldTheMost() {
        BondDesk desk = ending(20270101, 20270101, 20280101);
        best(desk, 9000, 0);
        best(desk, 10000, 0);
        best(desk, 1, 0);
        best(Desks.full(), 10000, 0);
        BondDesk second = new BondDesk();
        second.addBond(20260101, 20270101, 300, 1, 0);
        second.addBond(20260101, 20270101, 500, 1, 0);
        second.addBond(20260101, 20270101, 500, 1, 0);
        best(second, 10000, 1);
        best(second, 1, 0);
    }

    @Says(at = "Promise 23", words = "-1 if none yields 0 or more.")
    static void noneYields() {
        best(new BondDesk(), 1, -1);
        BondDesk desk = ending(20270101);
        best(desk, 10000, 0);
        best(desk, 10001, -1);
        desk.addBond(20260101, 20270101, 1, 1, 0);
        best(desk, 10001, 1);
        best(desk, 10002, -1);
    }

    @Says(at = "Promise 23", words = "Returns this bond, of those that are there")
    static void bestOfThoseThatAreThere() {
        BondDesk desk = called();
        best(desk, 9000, 0);
        BondDesk ended = Desks.with(20250105, 20260105, 0, 1, 0).get();
        best(ended, 1, 0);
        ended.pass(4);
        best(ended, 1, -1);
    }

    @Says(at = "Promise 23", words = "and issued")
    static void bestOfThoseIssued() {
        BondDesk desk = ending(20270101);
        desk.addBond(20260102, 20270101, 2000, 1, 0);
        best(desk, 9000, 0);
        desk.pass(1);
        best(desk, 9000, 1);
        BondDesk none = Desks.with(20260102, 20270102, 0, 1, 0).get();
        best(none, 1, -1);
        none.pass(1);
        best(none, 1, 0);
    }

    @Says(at = "Promise 23", words = "if price is not 1 to 30000")
    static void bestAtNoPrice() {
        for (int price : Desks.NO_PRICES) {
            Check.refusedArgument("best(" + price + ")", Desks::busy, desk -> desk.best(price));
            Check.refusedArgument("best(" + price + ") of none", BondDesk::new, desk -> desk.best(price));
        }
        best(Desks.busy(), 1, 0);
        best(Desks.busy(), 30000, -1);
        best(Desks.with(20260101, 20360101, 2000, 1, 0).get(), 30000, 0);
    }

    // ---- Promise 24

    @Says(at = "Promise 24", words = "0 if nothing is held.")
    static void yearsOfNothing() {
        years(new BondDesk(), 0.0);
        BondDesk desk = ending(20270101);
        years(desk, 0.0);
        desk.buy(0, 1, 10000);
        years(desk, 1.0);
        desk.sell(0, 1, 10000);
        years(desk, 0.0);
        desk.buy(0, 1, 10000);
        Desks.passTo(desk, 20270101);
        years(desk, 0.0);
    }

    @Says(at = "Promise 24", words = "days to the end (by the calendar)")
    static void yearsOfDays() {
        BondDesk desk = ending(20280301);
        desk.buy(0, 1, 10000);
        years(desk, (365 + 365 + 31 + 29) / 365.0);
        Desks.passTo(desk, 20280228);
        years(desk, 2 / 365.0);
        Desks.passTo(desk, 20280229);
        years(desk, 1 / 365.0);
        BondDesk saturday = ending(20260103);
        saturday.buy(0, 1, 10000);
        saturday.pass(1);
        years(saturday, 1 / 365.0);
        saturday.pass(1);
        years(saturday, 0.0);
    }

    @Says(at = "Promise 24", words = "all faces * days to the end (by the calendar), divided by all faces, and this by 365"
            + " (with all places behind the point)")
    static void yearsByFaces() {
        BondDesk desk = ending(20260201, 20260301);
        desk.addBond(20250102, 20270102, 0, 1, 0);
        desk.setSink(2, 20160101, 3333);
        desk.buy(0, 2, 10000);
        years(desk, 31 / 365.0);
        desk.buy(1, 1, 10000);
        years(desk, 12100000 / 300000.0 / 365);
        desk.buy(2, 1, 10000);
        years(desk, (12100000 + 36600000) / 400000.0 / 365);
        desk.pass(1);
        years(desk, (200000.0 * 30 + 100000 * 58 + 66670 * 365) / 366670 / 365);
    }

    // ---- Promise 25

    private static void digest(BondDesk desk, int... holidays) {
        Check.same("digest()", Desks.plainDigest(desk, holidays), desk::digest);
    }

    @Says(at = "Promise 25", words = "A number d starts with 647")
    static void digestOfNothing() {
        BondDesk desk = new BondDesk();
        long d = ((647 * 31L + 20260101) * 31 + 200000000) * 31 + 300;
        for (int what = 3; what <= 11; what++) {
            d = d * 31;
        }
        Check.same("digest()", d, desk::digest);
        digest(desk);
    }

    @Says(at = "Promise 25", words = "d becomes d * 31 + x, which wraps around as a 64-bit integer: what count() tells, in its order")
    static void digestOfAllPlaces() {
        int[] holidays = new int[30];
        for (int i = 0; i < 30; i++) {
            holidays[i] = 20270301 + i;
        }
        digest(Desks.full(), holidays);
        BondDesk most = Desks.with(20200301, 20300301, 100, 12, 0).get();
        digest(most);
    }

    @Says(at = "Promise 25", words = "the holidays, as they were told")
    static void digestOfHolidays() {
        BondDesk desk = new BondDesk();
        desk.addHoliday(20270101);
        digest(desk, 20270101);
        desk.addHoliday(20160101);
        desk.addHoliday(20270101);
        desk.addHoliday(20661231);
        digest(desk, 20270101, 20160101, 20661231);
    }

    @Says(at = "Promise 25", words = "for each bond what bond() tells, in its order, its accrued interest today, and of each of its"
            + " coupon dates the date and what coupon() tells of its coupon (for a face of 100000).")
    static void digestOfBonds() {
        int[] there = {3, 3, 2, 0};
        int[] dates = {20260105, 20260715, 20270114, 20300120};
        for (int i = 0; i < dates.length; i++) {
            BondDesk desk = Desks.busy();
            Desks.passTo(desk, dates[i]);
            Check.same("bonds that are there on " + dates[i], (long) there[i], () -> desk.count(4));
            digest(desk, 20260106, 20260716);
        }
    }

    @Says(at = "Promise 25", words = "Returns d.")
    static void digestChangesNothing() {
        BondDesk desk = Desks.busy();
        long before = desk.digest();
        Check.same("again", before, desk::digest);
        Check.same("the desk behind it", Desks.portrait(Desks.busy()), Desks.portrait(desk));
    }
}
