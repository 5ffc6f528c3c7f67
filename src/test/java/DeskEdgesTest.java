import java.util.List;
import java.util.function.Supplier;

/** The boundary cases of the terms' part 4 and of promises 17 to 20, each sentence in a test of its own. */
public final class DeskEdgesTest {
    private static final int[] NO_PIECES = {-1, 0, 1001, Integer.MAX_VALUE, Integer.MIN_VALUE};

    public static void main(String[] args) {
        Edges.run(DeskEdgesTest.class);
    }

    private static void buys(BondDesk desk, int bond, int pieces, int price, long due) {
        long cash = desk.count(1);
        int held = desk.bond(bond, 10);
        String what = "buy(" + bond + ", " + pieces + ", " + price + ")";
        Check.same(what, due, () -> desk.buy(bond, pieces, price));
        Check.same("the cash behind " + what, cash - due, () -> desk.count(1));
        Check.same("the pieces behind " + what, held + pieces, () -> desk.bond(bond, 10));
    }

    private static void sells(BondDesk desk, int bond, int pieces, int price, long due) {
        long cash = desk.count(1);
        int held = desk.bond(bond, 10);
        String what = "sell(" + bond + ", " + pieces + ", " + price + ")";
        Check.same(what, due, () -> desk.sell(bond, pieces, price));
        Check.same("the cash behind " + what, cash + due, () -> desk.count(1));
        Check.same("the pieces behind " + what, held - pieces, () -> desk.bond(bond, 10));
    }

    private static void passes(BondDesk desk, int date, long due) {
        Check.same("what is paid up to " + date, due, () -> Desks.passTo(desk, date));
    }

    private static void count(BondDesk desk, int what, long due) {
        Check.same("count(" + what + ")", due, () -> desk.count(what));
    }

    // Bonds without coupons, from January 1, 2026, to January 1, 2027.
    private static BondDesk plain(int bonds) {
        BondDesk desk = new BondDesk();
        for (int i = 0; i < bonds; i++) {
            desk.addBond(20260101, 20270101, 0, 1, 0);
        }
        return desk;
    }

    private static Supplier<BondDesk> busyOn(int date) {
        return () -> {
            BondDesk desk = Desks.busy();
            Desks.passTo(desk, date);
            return desk;
        };
    }

    // Bonds that ended, that was called, and whose sinking fund left nothing; one that is there.
    private static BondDesk gone() {
        BondDesk desk = new BondDesk();
        desk.addBond(20250105, 20260105, 0, 1, 0);
        desk.addBond(20250105, 20270105, 1000, 1, 0);
        desk.addBond(20251105, 20270105, 0, 12, 0);
        desk.addBond(20250105, 20270105, 0, 12, 0);
        desk.setCall(1, 20160101, 8000);
        desk.setSink(2, 20160101, 5000);
        for (int i = 0; i < 4; i++) {
            desk.buy(i, 10, 10000);
        }
        Desks.passTo(desk, 20260205);
        return desk;
    }

    // ---- What it is, and the terms

    @Says(at = "What it is", words = "An object is used for at most 512 calls after it has been made")
    static void the512thCall() {
        BondDesk desk = Desks.busy();
        for (int i = 15; i < 511; i++) {
            desk.worth(i % 4, i);
        }
        Check.same("it", Desks.busy().digest(), desk::digest);
    }

    @Says(at = "Terms", words = "All numbers are whole, and / is cut towards 0")
    static void cut() {
        BondDesk desk = Desks.with(20251231, 20261231, 99, 1, 2).get();
        Check.same("2.71 cents", 2, () -> desk.accrued(0, 20260101));
        Check.same("5.42 cents", 5, () -> desk.accrued(0, 20260102));
        Check.same("8.13 cents", 8, () -> desk.accrued(0, 20260103));
        Check.same("10.84 cents", 10, () -> desk.accrued(0, 20260104));
    }

    @Says(at = "Terms", words = "no step wraps around.")
    static void cashOfMoreThan31Bits() {
        BondDesk desk = plain(1);
        for (int i = 0; i < 10; i++) {
            desk.buy(0, 1000, 1);
            desk.sell(0, 1000, 30000);
        }
        count(desk, 1, 200000000L + 10 * (300000000L - 10000));
        buys(desk, 0, 1000, 30000, 300000000);
    }

    // 41 payments of a year; the first one of 300 days.
    @Says(at = "Terms", words = "no step wraps around.")
    static void worthAndCouponsOfMoreThan31Bits() {
        BondDesk desk = new BondDesk();
        for (int i = 0; i < 10; i++) {
            desk.addBond(20260101, 20661101, 2000, 1, 0);
            desk.buy(i, 1000, 1);
        }
        desk.setRate(0);
        count(desk, 11, 10000L * (16666 + 40 * 20000 + 100000));
        Check.same("years", 14914 / 365.0, desk::years);
        passes(desk, 20661101, 10000L * (16666 + 40 * 20000 + 100000));
        count(desk, 7, 10000L * (16666 + 40 * 20000));
        count(desk, 10, 10000L * 100000);
    }

    // ---- Terms, part 4

    @Says(at = "Terms 4", words = "Its date is 20260101 at first, its cash 200000000, and the refinancing rate 300.")
    static void atFirst() {
        BondDesk desk = new BondDesk();
        count(desk, 0, 20260101);
        count(desk, 1, 200000000);
        count(desk, 2, 300);
        Check.same("the rate before", 300, () -> desk.setRate(300));
    }

    @Says(at = "Terms 4", words = "It holds at most 1000 pieces of a bond.")
    static void atMost1000Pieces() {
        BondDesk desk = plain(2);
        buys(desk, 0, 1000, 1, 10000);
        Check.badState(desk, "one more", () -> desk.buy(0, 1, 1));
        buys(desk, 1, 1000, 1, 10000);
        count(desk, 6, 2000);
    }

    @Says(at = "Terms 4", words = "A trade is made on a working day, at the full price.")
    static void tradesOnAWorkingDay() {
        BondDesk desk = new BondDesk();
        Desks.half(desk);
        desk.pass(1);
        buys(desk, 0, 2, 9999, 2 * (99990 + 4638));
        desk.pass(1);
        Check.badState(desk, "buy on a Saturday", () -> desk.buy(0, 1, 9999));
        Check.badState(desk, "sell on a Saturday", () -> desk.sell(0, 1, 9999));
        desk.pass(1);
        Check.badState(desk, "buy on a Sunday", () -> desk.buy(0, 1, 9999));
        Check.badState(desk, "sell on a Sunday", () -> desk.sell(0, 1, 9999));
        desk.pass(1);
        sells(desk, 0, 1, 9999, 99990 + 4722);
        desk.addHoliday(20260105);
        Check.badState(desk, "buy on a holiday", () -> desk.buy(0, 1, 9999));
        Check.badState(desk, "sell on a holiday", () -> desk.sell(0, 1, 9999));
        desk.pass(1);
        buys(desk, 0, 1, 9999, 99990 + 4750);
    }

    @Says(at = "Terms 4", words = "the date is the next one; if it is a working day, what falls on dates up to it,"
            + " and was not looked at yet, is looked at.")
    static void aDay() {
        BondDesk desk = new BondDesk();
        Desks.half(desk);
        desk.buy(0, 1, 10000);
        passes(desk, 20260114, 0);
        passes(desk, 20260115, 5000);
        passes(desk, 20260116, 0);
        passes(desk, 20260714, 0);
        passes(desk, 20260715, 5000);
        BondDesk saturday = Desks.with(20250103, 20270103, 1000, 2, 0).get();
        saturday.buy(0, 1, 10000);
        passes(saturday, 20260103, 0);
        passes(saturday, 20260104, 0);
        Check.same("not looked at", 1, () -> saturday.bond(0, 8));
        passes(saturday, 20260105, 5000);
    }

    // Told on a Friday, on the Saturday of its coupon, and on the Sunday behind it.
    @Says(at = "Terms 4", words = "those up to the date then are not looked at (nothing is paid, the factor stays).")
    static void toldBehindCouponDates() {
        for (int days = 1; days <= 3; days++) {
            BondDesk desk = new BondDesk();
            desk.pass(days);
            desk.addBond(20250103, 20270103, 1000, 2, 0);
            desk.setSink(0, 20160101, 1000);
            boolean over = days > 1;
            Check.same("the next one", over ? 2 : 1, () -> desk.bond(0, 8));
            desk.pass(4 - days);
            Check.same("the next one on Monday", 2, () -> desk.bond(0, 8));
            Check.same("the factor on Monday", over ? 10000 : 9000, () -> desk.bond(0, 5));
        }
        BondDesk today = Desks.with(20250101, 20270101, 1000, 1, 0).get();
        today.buy(0, 1, 10000);
        passes(today, 20261231, 0);
        BondDesk tomorrow = Desks.with(20250102, 20270102, 1000, 1, 0).get();
        tomorrow.buy(0, 1, 10000);
        passes(tomorrow, 20261231, 10000);
    }

    @Says(at = "Terms 4", words = "A method that throws an exception changes nothing.")
    static void manyRefusedCalls() {
        BondDesk desk = Desks.busy();
        Check.badArgument(desk, "addHoliday", () -> desk.addHoliday(20260229));
        Check.badArgument(desk, "addBond", () -> desk.addBond(20250101, 20300101, 2001, 1, 0));
        Check.badArgument(desk, "setSink", () -> desk.setSink(0, 20160101, 5001));
        Check.badArgument(desk, "setCall", () -> desk.setCall(0, 20160101, 7999));
        Check.badArgument(desk, "another setCall", () -> desk.setCall(1, 20160101, 7999));
        Check.badArgument(desk, "setRate", () -> desk.setRate(2001));
        Check.badState(desk, "buy", () -> desk.buy(0, 901, 1));
        Check.badState(desk, "sell", () -> desk.sell(0, 101, 1));
        Check.badArgument(desk, "pass", () -> desk.pass(401));
        Check.same("the desk behind them", Desks.portrait(Desks.busy()), Desks.portrait(desk));
    }

    @Says(at = "Terms 4", words = "If several exceptions apply, the one that is named first is thrown.")
    static void namedFirst() {
        Check.refusedArgument("addHoliday", Desks::full, desk -> desk.addHoliday(0));
        Check.refusedArgument("addBond", Desks::full, desk -> desk.addBond(20250101, 20300101, 100, 1, 4));
        Check.refusedIndex("setSink", Desks::full, desk -> desk.setSink(10, 0, 5001));
        Check.refusedIndex("setCall", Desks::full, desk -> desk.setCall(10, 0, 7999));
        Check.refusedIndex("accrued", Desks::full, desk -> desk.accrued(10, 0));
        Check.refusedIndex("worth", Desks::full, desk -> desk.worth(10, -1));
        Check.refusedIndex("yields", Desks::full, desk -> desk.yields(10, 0));
        Check.refusedIndex("moves", Desks::full, desk -> desk.moves(10, -1));
        Check.refusedIndex("buy", busyOn(20260110), desk -> desk.buy(4, 0, 0));
        Check.refusedIndex("sell", busyOn(20260110), desk -> desk.sell(4, 0, 0));
        Check.refusedArgument("buy", busyOn(20260110), desk -> desk.buy(2, 1, 0));
        Check.refusedArgument("sell", busyOn(20260110), desk -> desk.sell(2, 0, 1));
        Check.refusedArgument("pass", busyOn(20661101), desk -> desk.pass(401));
    }

    // ---- Promise 17

    @Says(at = "Promise 17", words = "Returns the cents that are paid.")
    static void buysTheLeastAndTheMost() {
        buys(plain(1), 0, 1, 1, 10);
        buys(plain(1), 0, 1, 30000, 300000);
        buys(plain(1), 0, 1000, 1, 10000);
        buys(plain(1), 0, 1000, 20000, 200000000);
        buys(plain(1), 0, 666, 30000, 199800000);
    }

    @Says(at = "Promise 17", words = "if there is no such bond")
    static void buysNoBond() {
        for (int bond : Desks.NO_BONDS) {
            Check.refusedIndex("buy of " + bond, Desks::busy, desk -> desk.buy(bond, 1, 10000));
        }
        Check.refusedIndex("buy where there is none", BondDesk::new, desk -> desk.buy(0, 1, 10000));
        Check.refusedIndex("buy behind ten", Desks::full, desk -> desk.buy(10, 1, 10000));
        buys(Desks.full(), 9, 1, 10000, 104611);
    }

    @Says(at = "Promise 17", words = "if pieces is not 1 to 1000")
    static void buysNoPieces() {
        for (int pieces : NO_PIECES) {
            Check.refusedArgument("buy of " + pieces, Desks::busy, desk -> desk.buy(0, pieces, 10000));
        }
        buys(plain(1), 0, 1, 10000, 100000);
        buys(plain(1), 0, 1000, 10000, 100000000);
    }

    @Says(at = "Promise 17", words = "or price is not 1 to 30000")
    static void buysAtNoPrice() {
        for (int price : Desks.NO_PRICES) {
            Check.refusedArgument("buy at " + price, Desks::busy, desk -> desk.buy(0, 1, price));
        }
        buys(plain(1), 0, 2, 1, 20);
        buys(plain(1), 0, 2, 30000, 600000);
    }

    @Says(at = "Promise 17", words = "if today is no working day")
    static void buysOnNoWorkingDay() {
        Check.refusedState("on a holiday", busyOn(20260106), desk -> desk.buy(0, 1, 10000));
        Check.refusedState("on a Saturday", busyOn(20260110), desk -> desk.buy(0, 1, 10000));
        Check.refusedState("on a Sunday", busyOn(20260111), desk -> desk.buy(0, 1, 10000));
        buys(busyOn(20260109).get(), 0, 1, 10000, 104833);
        buys(busyOn(20260112).get(), 0, 1, 10000, 104916);
    }

    @Says(at = "Promise 17", words = "it is gone")
    static void buysOneThatIsGone() {
        for (int bond = 0; bond < 3; bond++) {
            int asked = bond;
            Check.refusedState("buy of " + bond, DeskEdgesTest::gone, desk -> desk.buy(asked, 1, 1));
        }
        buys(gone(), 3, 1, 10000, 100000);
    }

    @Says(at = "Promise 17", words = "today is earlier than its issue date")
    static void buysAheadOfItsIssue() {
        Check.refusedState("a day ahead", busyOn(20260119), desk -> desk.buy(3, 1, 10000));
        buys(busyOn(20260120).get(), 3, 1, 10000, 100000);
        buys(plain(1), 0, 1, 10000, 100000);
        Check.refusedState("a day ahead", Desks.with(20260102, 20270102, 0, 1, 0), desk -> desk.buy(0, 1, 10000));
    }

    @Says(at = "Promise 17", words = "there would be more than 1000")
    static void buysMoreThan1000() {
        BondDesk desk = plain(1);
        buys(desk, 0, 999, 1, 9990);
        Check.badState(desk, "2 more", () -> desk.buy(0, 2, 1));
        buys(desk, 0, 1, 1, 10);
        Check.badState(desk, "1 more", () -> desk.buy(0, 1, 1));
        Check.badState(desk, "1000 more", () -> desk.buy(0, 1000, 1));
        sells(desk, 0, 1, 1, 10);
        buys(desk, 0, 1, 1, 10);
        Check.refusedState("901 to 100", Desks::busy, busy -> busy.buy(0, 901, 1));
        buys(Desks.busy(), 0, 900, 1, 900 * (10 + 4722));
    }

    // The last piece is 100000 cents, as is the cash, or a cent more, for it has accrued.
    @Says(at = "Promise 17", words = "or the cash is not enough")
    static void buysForAllTheCash() {
        Supplier<BondDesk> made = () -> {
            BondDesk desk = plain(2);
            desk.addBond(20251231, 20261231, 37, 1, 2);
            desk.buy(0, 1000, 10000);
            desk.buy(1, 999, 10000);
            return desk;
        };
        Check.same("accrued", 1, () -> made.get().accrued(2, 20260101));
        Check.refusedState("a cent too much", made, desk -> desk.buy(2, 1, 10000));
        BondDesk desk = made.get();
        buys(desk, 1, 1, 10000, 100000);
        count(desk, 1, 0);
        Check.badState(desk, "the least of all", () -> desk.buy(2, 1, 1));
        sells(desk, 1, 1, 1, 10);
        Check.badState(desk, "11 of 10 cents", () -> desk.buy(2, 1, 1));
    }

    @Says(at = "Promise 17", words = {"Throws `IndexOutOfBoundsException` if there is no such bond",
        "Throws `IllegalArgumentException` if pieces is not 1 to 1000, or price is not 1 to 30000",
        "Throws `IllegalStateException` if today is no working day, it is gone, today is earlier than its issue date"})
    static void buysWronglyInSeveralWays() {
        Check.refusedIndex("no bond, no pieces", Desks::busy, desk -> desk.buy(4, 0, 10000));
        Check.refusedIndex("no bond, no price", Desks::busy, desk -> desk.buy(-1, 1, 0));
        Check.refusedIndex("no bond on a Saturday", busyOn(20260110), desk -> desk.buy(4, 1, 1));
        Check.refusedArgument("no pieces on a Saturday", busyOn(20260110), desk -> desk.buy(0, 0, 1));
        Check.refusedArgument("no price on a Saturday", busyOn(20260110), desk -> desk.buy(0, 1, 30001));
        Check.refusedArgument("no pieces of one that is gone", Desks::busy, desk -> desk.buy(2, 1001, 1));
        Check.refusedArgument("no price ahead of its issue", Desks::busy, desk -> desk.buy(3, 1, 0));
        Check.refusedArgument("no price of more than 1000", Desks::busy, desk -> desk.buy(0, 1000, 0));
        Check.refusedArgument("no price for more than the cash", Desks::busy, desk -> desk.buy(0, 900, 30001));
    }

    // ---- Promise 18

    @Says(at = "Promise 18", words = "Returns the cents that are got.")
    static void sellsTheLeastAndTheMost() {
        BondDesk desk = plain(1);
        desk.buy(0, 1000, 1);
        sells(desk, 0, 1, 1, 10);
        sells(desk, 0, 1, 30000, 300000);
        desk.buy(0, 2, 1);
        sells(desk, 0, 1000, 30000, 300000000);
    }

    @Says(at = "Promise 18", words = "if there is no such bond")
    static void sellsNoBond() {
        for (int bond : Desks.NO_BONDS) {
            Check.refusedIndex("sell of " + bond, Desks::busy, desk -> desk.sell(bond, 1, 10000));
        }
        Check.refusedIndex("sell where there is none", BondDesk::new, desk -> desk.sell(0, 1, 10000));
        Check.refusedIndex("sell behind ten", Desks::full, desk -> desk.sell(10, 1, 10000));
        sells(Desks.full(), 9, 19, 10000, 19 * 104611);
    }

    @Says(at = "Promise 18", words = "if pieces is not 1 to 1000")
    static void sellsNoPieces() {
        for (int pieces : NO_PIECES) {
            Check.refusedArgument("sell of " + pieces, Desks::busy, desk -> desk.sell(0, pieces, 10000));
        }
        BondDesk desk = plain(1);
        desk.buy(0, 1000, 1);
        sells(desk, 0, 1000, 1, 10000);
    }

    @Says(at = "Promise 18", words = "or price is not 1 to 30000")
    static void sellsAtNoPrice() {
        for (int price : Desks.NO_PRICES) {
            Check.refusedArgument("sell at " + price, Desks::busy, desk -> desk.sell(0, 1, price));
        }
        sells(Desks.busy(), 0, 1, 1, 10 + 4722);
        sells(Desks.busy(), 0, 1, 30000, 300000 + 4722);
    }

    @Says(at = "Promise 18", words = "if today is no working day")
    static void sellsOnNoWorkingDay() {
        Check.refusedState("on a holiday", busyOn(20260106), desk -> desk.sell(0, 1, 10000));
        Check.refusedState("on a Saturday", busyOn(20260110), desk -> desk.sell(0, 1, 10000));
        Check.refusedState("on a Sunday", busyOn(20260111), desk -> desk.sell(0, 1, 10000));
        sells(busyOn(20260109).get(), 0, 1, 10000, 104833);
        sells(busyOn(20260112).get(), 0, 1, 10000, 104916);
    }

    @Says(at = "Promise 18", words = "or so many are not held")
    static void sellsMoreThanIsHeld() {
        Check.refusedState("101 of 100", Desks::busy, desk -> desk.sell(0, 101, 10000));
        Check.refusedState("1000 of 100", Desks::busy, desk -> desk.sell(0, 1000, 10000));
        Check.refusedState("1 of none", Desks::busy, desk -> desk.sell(3, 1, 10000));
        BondDesk desk = Desks.busy();
        sells(desk, 0, 100, 10000, 100 * 104722);
        Check.badState(desk, "1 of none any more", () -> desk.sell(0, 1, 10000));
        sells(desk, 1, 199, 10000, 199 * desk.buy(1, 1, 10000));
        sells(desk, 1, 1, 10000, desk.buy(1, 1, 10000));
        sells(desk, 1, 1, 10000, desk.buy(1, 1, 10000));
        for (int bond = 0; bond < 3; bond++) {
            int asked = bond;
            Check.refusedState("1 of one that is gone", DeskEdgesTest::gone, gone -> gone.sell(asked, 1, 1));
        }
        sells(gone(), 3, 10, 10000, 1000000);
    }

    @Says(at = "Promise 18", words = {"Throws `IndexOutOfBoundsException` if there is no such bond",
        "Throws `IllegalArgumentException` if pieces is not 1 to 1000, or price is not 1 to 30000",
        "Throws `IllegalStateException` if today is no working day, or so many are not held"})
    static void sellsWronglyInSeveralWays() {
        Check.refusedIndex("no bond, no pieces", Desks::busy, desk -> desk.sell(4, 0, 10000));
        Check.refusedIndex("no bond, no price", Desks::busy, desk -> desk.sell(-1, 1, 0));
        Check.refusedIndex("no bond on a Saturday", busyOn(20260110), desk -> desk.sell(4, 1, 1));
        Check.refusedArgument("no pieces on a Saturday", busyOn(20260110), desk -> desk.sell(0, 0, 1));
        Check.refusedArgument("no price on a Saturday", busyOn(20260110), desk -> desk.sell(0, 1, 30001));
        Check.refusedArgument("more pieces than there can be", Desks::busy, desk -> desk.sell(0, 1001, 1));
        Check.refusedArgument("no price, more than is held", Desks::busy, desk -> desk.sell(0, 101, 0));
    }

    // ---- Promise 19

    @Says(at = "Promise 19", words = "Returns the cents that are paid to the desk in them.")
    static void passesTheFirstAndTheLastDay() {
        BondDesk desk = Desks.with(20260101, 20260701, 1200, 12, 0).get();
        desk.addBond(20260101, 20260701, 1200, 12, 0);
        desk.buy(0, 3, 10000);
        Check.same("31 days", 0L, () -> desk.pass(31));
        Check.same("on Monday, February 2", 3000L, () -> desk.pass(1));
        Check.same("27 days up to Sunday, March 1", 0L, () -> desk.pass(27));
        Check.same("31 days, with a coupon on the first and on the last one", 6000L, () -> desk.pass(31));
        Check.same("400 days", 3 * (1000L + 1000 + 101000), () -> desk.pass(400));
        Check.same("nothing any more", 0L, () -> desk.pass(400));
    }

    @Says(at = "Promise 19", words = "if days is not 1 to 400")
    static void passesTooManyDays() {
        for (int days : new int[] {0, -1, 401, Integer.MAX_VALUE, Integer.MIN_VALUE}) {
            Check.refusedArgument("pass(" + days + ")", Desks::busy, desk -> desk.pass(days));
        }
        BondDesk desk = new BondDesk();
        Check.same("pass(1)", 0L, () -> desk.pass(1));
        count(desk, 0, 20260102);
        Check.same("pass(400)", 0L, () -> desk.pass(400));
        count(desk, 0, 20270206);
        Check.same("pass(399)", 0L, () -> desk.pass(399));
        count(desk, 0, 20280311);
    }

    @Says(at = "Promise 19", words = "if the date would be later than 20661101")
    static void passesToTheLastDate() {
        Check.refusedState("400 days", busyOn(20650928), desk -> desk.pass(400));
        Check.same("400 days", 0L, () -> busyOn(20650927).get().pass(400));
        Check.refusedState("2 days", busyOn(20661031), desk -> desk.pass(2));
        BondDesk desk = busyOn(20661031).get();
        Check.same("1 day", 0L, () -> desk.pass(1));
        count(desk, 0, 20661101);
        Check.refusedState("1 day more", busyOn(20661101), other -> other.pass(1));
        Check.refusedState("400 days more", busyOn(20661101), other -> other.pass(400));
    }

    @Says(at = "Promise 19", words = {"Throws `IllegalArgumentException` if days is not 1 to 400",
        "Throws `IllegalStateException` if the date would be later than 20661101"})
    static void passesWronglyInSeveralWays() {
        for (int days : new int[] {0, -1, 401, Integer.MAX_VALUE, Integer.MIN_VALUE}) {
            Check.refusedArgument("pass(" + days + ") at the end", busyOn(20661101), desk -> desk.pass(days));
        }
    }

    // ---- Promise 20

    @Says(at = "Promise 20", words = "0 the date, 1 the cash, 2 the refinancing rate")
    static void countsTheDateTheCashAndTheRate() {
        BondDesk desk = plain(1);
        desk.buy(0, 1000, 20000);
        desk.setRate(0);
        count(desk, 1, 0);
        count(desk, 2, 0);
        desk.setRate(2000);
        count(desk, 2, 2000);
        Desks.passTo(desk, 20270101);
        count(desk, 0, 20270101);
        count(desk, 1, 100000000);
        Desks.passTo(desk, 20661101);
        count(desk, 0, 20661101);
    }

    @Says(at = "Promise 20", words = "3 bonds, 4 those that are there, 5 holidays, 6 pieces held")
    static void countsWhatIsThere() {
        List<BondDesk> desks = List.of(new BondDesk(), Desks.full(), Desks.busy(), gone());
        long[][] due = {{0, 0, 0, 0}, {10, 10, 30, 145}, {4, 3, 2, 300}, {4, 1, 0, 10}};
        for (int i = 0; i < 4; i++) {
            for (int what = 0; what < 4; what++) {
                count(desks.get(i), 3 + what, due[i][what]);
            }
        }
    }

    @Says(at = "Promise 20", words = "7 all that was paid for coupons, 8 for sinking, 9 for calls, 10 for ends"
            + " (7 to 10: to the desk)")
    static void countsWhatWasPaid() {
        BondDesk none = gone();
        count(none, 7, 10 * 10000);
        count(none, 8, 10 * 100000);
        count(none, 9, 10 * 80000);
        count(none, 10, 10 * 100000);
        BondDesk desk = new BondDesk();
        Desks.half(desk);
        desk.setSink(0, 20160101, 2500);
        Desks.passTo(desk, 20270115);
        for (int what = 7; what <= 10; what++) {
            count(desk, what, 0);
        }
    }

    @Says(at = "Promise 20", words = "11 the worth of all pieces held, at the refinancing rate")
    static void countsTheWorthOfThoseHeld() {
        BondDesk desk = plain(2);
        count(desk, 11, 0);
        desk.buy(0, 1, 10000);
        desk.setRate(1000);
        count(desk, 11, 90909);
        desk.buy(1, 1000, 9000);
        count(desk, 11, 1001L * 90909);
        desk.setRate(0);
        count(desk, 11, 1001L * 100000);
        count(gone(), 11, 10 * 97310);
    }

    @Says(at = "Promise 20", words = "if what is not 0 to 11")
    static void countsNothingElse() {
        for (int what : new int[] {-1, 12, Integer.MAX_VALUE, Integer.MIN_VALUE}) {
            Check.refusedIndex("count(" + what + ")", Desks::busy, desk -> desk.count(what));
        }
        count(new BondDesk(), 0, 20260101);
        count(new BondDesk(), 11, 0);
    }
}
