import java.util.List;
import java.util.function.Supplier;

/** The boundary cases of promises 6 to 12, each sentence in a test of its own. */
public final class BondsEdgesTest {
    public static void main(String[] args) {
        Edges.run(BondsEdgesTest.class);
    }

    private static void adds(Supplier<BondDesk> made, int issue, int end, int rate, int f, int way) {
        BondDesk desk = made.get();
        long told = desk.count(3);
        Check.same("addBond(" + issue + ", " + end + ", " + rate + ", " + f + ", " + way + ")", told,
                () -> desk.addBond(issue, end, rate, f, way));
        Check.same("how many there are then", told + 1, () -> desk.count(3));
    }

    private static void refuses(Supplier<BondDesk> made, int issue, int end, int rate, int f, int way) {
        Check.refusedArgument("addBond(" + issue + ", " + end + ", " + rate + ", " + f + ", " + way + ")", made,
                desk -> desk.addBond(issue, end, rate, f, way));
    }

    private static void sinks(BondDesk desk, int from, int part, int due) {
        Check.same("setSink(0, " + from + ", " + part + ")", due, () -> desk.setSink(0, from, part));
    }

    private static void calls(BondDesk desk, int from, int price, int due) {
        Check.same("setCall(0, " + from + ", " + price + ")", due, () -> desk.setCall(0, from, price));
    }

    private static void bond(BondDesk desk, int... due) {
        for (int i = 0; i < due.length; i++) {
            int what = i;
            Check.same("bond(0, " + i + ")", due[i], () -> desk.bond(0, what));
        }
    }

    private static void accrued(BondDesk desk, int date, int due) {
        Check.same("accrued(0, " + date + ")", due, () -> desk.accrued(0, date));
    }

    private static BondDesk half() {
        BondDesk desk = new BondDesk();
        Desks.half(desk);
        return desk;
    }

    private static BondDesk halfOn(int date) {
        BondDesk desk = half();
        Desks.passTo(desk, date);
        return desk;
    }

    // One whose bond 0 ended, one where it was called, and one where its sinking fund left nothing.
    private static List<Supplier<BondDesk>> gone() {
        Supplier<BondDesk> ended = () -> halfOn(20270115);
        Supplier<BondDesk> called = () -> {
            BondDesk desk = half();
            desk.setCall(0, 20160101, 8000);
            desk.pass(14);
            return desk;
        };
        Supplier<BondDesk> sunk = () -> {
            BondDesk desk = half();
            desk.setSink(0, 20160101, 5000);
            Desks.passTo(desk, 20260715);
            return desk;
        };
        return List.of(ended, called, sunk);
    }

    // ---- Promise 6

    @Says(at = "Promise 6", words = "Returns its number.")
    static void firstAndLastBond() {
        BondDesk desk = new BondDesk();
        for (int i = 0; i < 10; i++) {
            Check.same("its number", i, () -> Desks.half(desk));
        }
        Check.same("the last one", 20250115, () -> desk.bond(9, 0));
    }

    @Says(at = "Promise 6", words = "Tells a bond, without a sinking fund and calls.")
    static void withoutSinkingFundAndCalls() {
        BondDesk desk = half();
        desk.setRate(0);
        Check.same("callsAt", -1, () -> desk.callsAt(0));
        Desks.passTo(desk, 20270114);
        bond(desk, 20250115, 20270115, 1000, 2, 0, 10000, 100000, 4, 3, 0);
    }

    @Says(at = "Promise 6", words = "if one of both is no date")
    static void addsOnNoDate() {
        for (int date : Desks.NO_DATES) {
            refuses(Desks::busy, date, 20300101, 100, 1, 0);
            refuses(Desks::busy, 20250101, date, 100, 1, 0);
            refuses(Desks::busy, date, date, 100, 1, 0);
        }
        adds(Desks::busy, 20160101, 20300101, 100, 1, 0);
        adds(Desks::busy, 20240229, 20280229, 100, 1, 0);
    }

    @Says(at = "Promise 6", words = "the end is later than 20661101")
    static void addsToTheLastEnd() {
        adds(Desks::busy, 20250101, 20661101, 100, 1, 0);
        adds(Desks::busy, 20661031, 20661101, 100, 1, 0);
        refuses(Desks::busy, 20250101, 20661102, 100, 1, 0);
        refuses(Desks::busy, 20661101, 20661102, 100, 1, 0);
        refuses(Desks::busy, 20250101, 20661231, 100, 1, 0);
    }

    @Says(at = "Promise 6", words = "or not later than the issue date")
    static void addsAnEndBehindItsIssue() {
        adds(Desks::busy, 20300114, 20300115, 100, 1, 0);
        adds(Desks::busy, 20291231, 20300101, 100, 12, 3);
        refuses(Desks::busy, 20300115, 20300115, 100, 1, 0);
        refuses(Desks::busy, 20300116, 20300115, 100, 1, 0);
        refuses(Desks::busy, 20400115, 20300115, 100, 1, 0);
    }

    @Says(at = "Promise 6", words = "or not later than the date of the desk")
    static void addsAnEndBehindToday() {
        adds(BondDesk::new, 20250101, 20260102, 100, 1, 0);
        refuses(BondDesk::new, 20250101, 20260101, 100, 1, 0);
        refuses(BondDesk::new, 20250101, 20251231, 100, 1, 0);
        adds(Desks::busy, 20250101, 20260106, 100, 1, 0);
        refuses(Desks::busy, 20250101, 20260105, 100, 1, 0);
        refuses(Desks::busy, 20250101, 20260104, 100, 1, 0);
    }

    @Says(at = "Promise 6", words = "rate is not 0 to 2000")
    static void addsByRates() {
        for (int rate : new int[] {0, 1, 1999, 2000}) {
            adds(Desks::busy, 20250101, 20300101, rate, 1, 0);
        }
        for (int rate : new int[] {-1, 2001, Integer.MAX_VALUE, Integer.MIN_VALUE}) {
            refuses(Desks::busy, 20250101, 20300101, rate, 1, 0);
        }
    }

    @Says(at = "Promise 6", words = "f is not 1, 2, 4 or 12")
    static void addsByCouponsInAYear() {
        for (int f = -1; f <= 25; f++) {
            if (f == 1 || f == 2 || f == 4 || f == 12) {
                adds(Desks::busy, 20250101, 20300101, 100, f, 0);
            } else {
                refuses(Desks::busy, 20250101, 20300101, 100, f, 0);
            }
        }
        refuses(Desks::busy, 20250101, 20300101, 100, Integer.MAX_VALUE, 0);
        refuses(Desks::busy, 20250101, 20300101, 100, Integer.MIN_VALUE, 0);
    }

    @Says(at = "Promise 6", words = "way is not 0 to 3")
    static void addsByWays() {
        for (int way = 0; way <= 3; way++) {
            adds(Desks::busy, 20250101, 20300101, 100, 1, way);
        }
        for (int way : new int[] {-1, 4, Integer.MAX_VALUE, Integer.MIN_VALUE}) {
            refuses(Desks::busy, 20250101, 20300101, 100, 1, way);
        }
    }

    @Says(at = "Promise 6", words = "there would be more than 120 coupon dates")
    static void addsTheMostCouponDates() {
        adds(Desks::busy, 20200301, 20300301, 100, 12, 0);
        refuses(Desks::busy, 20200229, 20300301, 100, 12, 0);
        refuses(Desks::busy, 20160201, 20660201, 100, 12, 0);
        adds(Desks::busy, 20360201, 20660201, 100, 4, 0);
        refuses(Desks::busy, 20360131, 20660201, 100, 4, 0);
        adds(Desks::busy, 20160201, 20660201, 100, 2, 0);
    }

    @Says(at = "Promise 6", words = "or the regular beginning of the first period is earlier than 20160101")
    static void addsFromTheFirstDate() {
        adds(Desks::busy, 20160101, 20270101, 100, 1, 0);
        adds(Desks::busy, 20160102, 20270101, 100, 1, 0);
        adds(Desks::busy, 20161231, 20270101, 100, 1, 0);
        adds(Desks::busy, 20160102, 20270102, 100, 1, 0);
        refuses(Desks::busy, 20160101, 20270102, 100, 1, 0);
        refuses(Desks::busy, 20161230, 20261231, 100, 1, 0);
        adds(Desks::busy, 20161231, 20261231, 100, 1, 0);
        refuses(Desks::busy, 20160228, 20270228, 100, 1, 0);
        adds(Desks::busy, 20160229, 20270228, 100, 1, 0);
        refuses(Desks::busy, 20160630, 20261231, 100, 1, 0);
        adds(Desks::busy, 20160630, 20261231, 100, 2, 0);
        refuses(Desks::busy, 20160629, 20261231, 100, 2, 0);
    }

    @Says(at = "Promise 6", words = "if there are 10")
    static void addsTheLastBond() {
        Supplier<BondDesk> nine = () -> {
            BondDesk desk = new BondDesk();
            for (int i = 0; i < 9; i++) {
                Desks.half(desk);
            }
            return desk;
        };
        adds(nine, 20250115, 20270115, 1000, 2, 0);
        Check.refusedState("an 11th one", Desks::full, desk -> Desks.half(desk));
        Supplier<BondDesk> gone = () -> {
            BondDesk desk = Desks.full();
            Desks.passTo(desk, 20270115);
            return desk;
        };
        Check.refusedState("an 11th one behind ten that are gone", gone,
                desk -> desk.addBond(20270101, 20280101, 100, 1, 0));
    }

    @Says(at = "Promise 6", words = "Throws `IllegalStateException` if there are 10")
    static void addsToTenWrongly() {
        refuses(Desks::full, 20260229, 20300101, 100, 1, 0);
        refuses(Desks::full, 20250101, 20260431, 100, 1, 0);
        refuses(Desks::full, 20250101, 20661102, 100, 1, 0);
        refuses(Desks::full, 20300101, 20300101, 100, 1, 0);
        refuses(Desks::full, 20250101, 20260101, 100, 1, 0);
        refuses(Desks::full, 20250101, 20300101, 2001, 1, 0);
        refuses(Desks::full, 20250101, 20300101, 100, 3, 0);
        refuses(Desks::full, 20250101, 20300101, 100, 1, 4);
        refuses(Desks::full, 20200229, 20300301, 100, 12, 0);
        refuses(Desks::full, 20160101, 20270102, 100, 1, 0);
    }

    // ---- Promise 7

    @Says(at = "Promise 7", words = "the date from which on it works")
    static void sinksFromItsDateOn() {
        BondDesk desk = half();
        sinks(desk, 20160101, 1000, 8000);
        sinks(desk, 20260114, 1000, 8000);
        sinks(desk, 20260115, 1000, 8000);
        sinks(desk, 20260116, 1000, 9000);
        sinks(desk, 20260715, 1000, 9000);
        sinks(desk, 20260716, 1000, 10000);
        sinks(desk, 20270115, 1000, 10000);
        sinks(desk, 20661231, 1000, 10000);
    }

    @Says(at = "Promise 7", words = "the part, 0 for none")
    static void sinksBy0() {
        BondDesk desk = half();
        sinks(desk, 20160101, 1, 9998);
        sinks(desk, 20160101, 0, 10000);
        Desks.passTo(desk, 20260715);
        Check.same("the factor", 10000, () -> desk.bond(0, 5));
    }

    @Says(at = "Promise 7", words = "Returns how much of the factor is left ahead of its end by this, if it is not called.")
    static void leftAheadOfItsEnd() {
        BondDesk desk = half();
        sinks(desk, 20160101, 4999, 2);
        sinks(desk, 20160101, 5000, 0);
        desk.setCall(0, 20160101, 8000);
        sinks(desk, 20160101, 2500, 5000);
        BondDesk one = Desks.with(20260101, 20270101, 100, 1, 0).get();
        sinks(one, 20160101, 5000, 10000);
        BondDesk three = Desks.with(20260101, 20270101, 100, 4, 0).get();
        sinks(three, 20160101, 3333, 1);
        sinks(three, 20160101, 3334, 0);
        BondDesk most = Desks.with(20260101, 20360101, 100, 12, 0).get();
        sinks(most, 20160101, 84, 10000 - 119 * 84);
        sinks(most, 20160101, 85, 0);
    }

    // What was looked at already, or was over when the bond was told, does not count any more.
    @Says(at = "Promise 7", words = "Returns how much of the factor is left ahead of its end by this")
    static void leftBehindWhatWasLookedAt() {
        sinks(halfOn(20260114), 20160101, 1000, 8000);
        sinks(halfOn(20260115), 20160101, 1000, 9000);
        sinks(halfOn(20260714), 20160101, 1000, 9000);
        sinks(halfOn(20260715), 20160101, 1000, 10000);
        sinks(halfOn(20270114), 20160101, 1000, 10000);
        BondDesk desk = half();
        desk.setSink(0, 20160101, 3000);
        Desks.passTo(desk, 20260115);
        sinks(desk, 20160101, 1000, 6000);
        sinks(desk, 20160101, 5000, 2000);
    }

    @Says(at = "Promise 7", words = "if there is no such bond")
    static void sinksNoBond() {
        for (int bond : Desks.NO_BONDS) {
            Check.refusedIndex("setSink of " + bond, Desks::busy, desk -> desk.setSink(bond, 20260101, 1));
        }
        Check.refusedIndex("setSink where there is none", BondDesk::new, desk -> desk.setSink(0, 20260101, 1));
        Check.refusedIndex("setSink behind ten", Desks::full, desk -> desk.setSink(10, 20260101, 1));
        Check.same("setSink of the last of ten", 9998, () -> Desks.full().setSink(9, 20160101, 1));
    }

    @Says(at = "Promise 7", words = "if from is no date")
    static void sinksFromNoDate() {
        for (int date : Desks.NO_DATES) {
            Check.refusedArgument("setSink from " + date, Desks::busy, desk -> desk.setSink(0, date, 1));
            Check.refusedArgument("setSink of none from " + date, Desks::busy, desk -> desk.setSink(0, date, 0));
        }
    }

    @Says(at = "Promise 7", words = "or part is not 0 to 5000")
    static void sinksByParts() {
        for (int part : new int[] {0, 1, 4999, 5000}) {
            sinks(halfOn(20260115), 20160101, part, 10000 - part);
        }
        for (int part : new int[] {-1, 5001, Integer.MAX_VALUE, Integer.MIN_VALUE}) {
            Check.refusedArgument("setSink of " + part, Desks::busy, desk -> desk.setSink(0, 20160101, part));
        }
    }

    @Says(at = "Promise 7", words = "if it is gone")
    static void sinksOneThatIsGone() {
        for (Supplier<BondDesk> made : gone()) {
            Check.refusedState("setSink", made, desk -> desk.setSink(0, 20160101, 1));
            Check.refusedState("setSink of none", made, desk -> desk.setSink(0, 20160101, 0));
        }
        sinks(halfOn(20270114), 20160101, 1, 10000);
    }

    @Says(at = "Promise 7", words = {"Throws `IndexOutOfBoundsException` if there is no such bond",
        "Throws `IllegalArgumentException` if from is no date, or part is not 0 to 5000",
        "Throws `IllegalStateException` if it is gone"})
    static void sinksWronglyInSeveralWays() {
        Check.refusedIndex("no bond, no date", Desks::busy, desk -> desk.setSink(4, 0, 1));
        Check.refusedIndex("no bond, no part", Desks::busy, desk -> desk.setSink(-1, 20260101, 5001));
        Check.refusedIndex("no bond, no date, no part", Desks::busy, desk -> desk.setSink(4, 0, -1));
        for (Supplier<BondDesk> made : gone()) {
            Check.refusedArgument("gone, no date", made, desk -> desk.setSink(0, 0, 1));
            Check.refusedArgument("gone, no part", made, desk -> desk.setSink(0, 20260101, 5001));
            Check.refusedIndex("no bond, one that is gone, no date, no part", made, desk -> desk.setSink(1, 0, -1));
        }
    }

    // ---- Promise 8

    @Says(at = "Promise 8", words = "the date from which on it can be called")
    static void callsFromItsDateOn() {
        BondDesk desk = half();
        calls(desk, 20160101, 8000, 1);
        calls(desk, 20260114, 8000, 1);
        calls(desk, 20260115, 8000, 1);
        calls(desk, 20260116, 8000, 2);
        calls(desk, 20260715, 8000, 2);
        calls(desk, 20260716, 8000, -1);
    }

    @Says(at = "Promise 8", words = "the call price, 0 for none")
    static void callsAtNoPrice() {
        BondDesk desk = half();
        calls(desk, 20160101, 8000, 1);
        calls(desk, 20160101, 0, -1);
        desk.setRate(0);
        Desks.passTo(desk, 20260715);
        Check.same("it is there", 0, () -> desk.bond(0, 9));
    }

    @Says(at = "Promise 8", words = "the number of the first coupon date that is not looked at yet")
    static void callsBehindWhatWasLookedAt() {
        calls(halfOn(20260114), 20160101, 15000, 1);
        calls(halfOn(20260115), 20160101, 15000, 2);
        calls(halfOn(20260714), 20160101, 15000, 2);
        calls(halfOn(20260715), 20160101, 15000, -1);
    }

    @Says(at = "Promise 8", words = "(whatever its sinking fund leaves), -1 if there is none.")
    static void callsWhateverIsLeft() {
        BondDesk desk = half();
        desk.setSink(0, 20160101, 5000);
        calls(desk, 20260715, 8000, 2);
        calls(desk, 20270114, 8000, -1);
        calls(desk, 20270115, 8000, -1);
        calls(desk, 20661231, 8000, -1);
        calls(Desks.with(20260101, 20270101, 100, 1, 0).get(), 20160101, 8000, -1);
    }

    @Says(at = "Promise 8", words = "if there is no such bond")
    static void callsNoBond() {
        for (int bond : Desks.NO_BONDS) {
            Check.refusedIndex("setCall of " + bond, Desks::busy, desk -> desk.setCall(bond, 20260101, 8000));
        }
        Check.refusedIndex("setCall where there is none", BondDesk::new, desk -> desk.setCall(0, 20260101, 8000));
        Check.refusedIndex("setCall behind ten", Desks::full, desk -> desk.setCall(10, 20260101, 8000));
        Check.same("setCall of the last of ten", 1, () -> Desks.full().setCall(9, 20160101, 8000));
    }

    @Says(at = "Promise 8", words = "if from is no date")
    static void callsFromNoDate() {
        for (int date : Desks.NO_DATES) {
            Check.refusedArgument("setCall from " + date, Desks::busy, desk -> desk.setCall(0, date, 8000));
            Check.refusedArgument("setCall of none from " + date, Desks::busy, desk -> desk.setCall(1, date, 0));
        }
    }

    @Says(at = "Promise 8", words = "or price is neither 0 nor 8000 to 15000")
    static void callsAtPrices() {
        for (int price : new int[] {8000, 8001, 14999, 15000}) {
            calls(half(), 20160101, price, 1);
        }
        calls(half(), 20160101, 0, -1);
        for (int price : new int[] {-1, 1, 7999, 15001, Integer.MAX_VALUE, Integer.MIN_VALUE}) {
            Check.refusedArgument("setCall at " + price, Desks::busy, desk -> desk.setCall(0, 20160101, price));
            Check.refusedArgument("another setCall at " + price, Desks::busy, desk -> desk.setCall(1, 20160101, price));
        }
    }

    @Says(at = "Promise 8", words = "if it is gone")
    static void callsOneThatIsGone() {
        for (Supplier<BondDesk> made : gone()) {
            Check.refusedState("setCall", made, desk -> desk.setCall(0, 20160101, 8000));
            Check.refusedState("setCall of none", made, desk -> desk.setCall(0, 20160101, 0));
        }
        calls(halfOn(20270114), 20160101, 8000, -1);
    }

    @Says(at = "Promise 8", words = {"Throws `IndexOutOfBoundsException` if there is no such bond",
        "Throws `IllegalArgumentException` if from is no date, or price is neither 0 nor 8000 to 15000",
        "Throws `IllegalStateException` if it is gone"})
    static void callsWronglyInSeveralWays() {
        Check.refusedIndex("no bond, no date", Desks::busy, desk -> desk.setCall(4, 0, 8000));
        Check.refusedIndex("no bond, no price", Desks::busy, desk -> desk.setCall(-1, 20260101, 7999));
        Check.refusedIndex("no bond, no date, no price", Desks::busy, desk -> desk.setCall(4, 0, -1));
        for (Supplier<BondDesk> made : gone()) {
            Check.refusedArgument("gone, no date", made, desk -> desk.setCall(0, 0, 8000));
            Check.refusedArgument("gone, no price", made, desk -> desk.setCall(0, 20260101, 15001));
            Check.refusedIndex("no bond, one that is gone, no date, no price", made, desk -> desk.setCall(1, 0, -1));
        }
    }

    // ---- Promise 9

    @Says(at = "Promise 9", words = "Returns the rate before.")
    static void rateBefore() {
        BondDesk desk = new BondDesk();
        Check.same("the first time", 300, () -> desk.setRate(0));
        Check.same("the second time", 0, () -> desk.setRate(2000));
        Check.same("the third time", 2000, () -> desk.setRate(1));
        Check.same("the rate", 1L, () -> desk.count(2));
    }

    @Says(at = "Promise 9", words = "the refinancing rate from now on")
    static void rateFromNowOn() {
        BondDesk desk = Desks.with(20260101, 20270101, 0, 1, 0).get();
        desk.buy(0, 1, 10000);
        desk.setRate(0);
        Check.same("the worth at 0", 100000L, () -> desk.count(11));
        desk.setRate(2000);
        Check.same("the worth at 2000", 83333L, () -> desk.count(11));
        Check.same("the worth at a yield of 0", 100000, () -> desk.worth(0, 0));
    }

    @Says(at = "Promise 9", words = "if rate is not 0 to 2000")
    static void ratesToSet() {
        for (int rate : new int[] {0, 1, 1999, 2000}) {
            BondDesk desk = new BondDesk();
            Check.same("setRate(" + rate + ")", 300, () -> desk.setRate(rate));
            Check.same("the rate", (long) rate, () -> desk.count(2));
        }
        for (int rate : new int[] {-1, 2001, Integer.MAX_VALUE, Integer.MIN_VALUE}) {
            Check.refusedArgument("setRate(" + rate + ")", Desks::busy, desk -> desk.setRate(rate));
        }
    }

    // ---- Promise 10

    @Says(at = "Promise 10", words = "0 the issue date, 1 the end, 2 its rate, 3 f, 4 the way to count, 5 its factor, 6 its face,"
            + " 7 how many coupon dates it has")
    static void tellsWhatItHas() {
        bond(Desks.with(20250120, 20270115, 750, 4, 3).get(), 20250120, 20270115, 750, 4, 3, 10000, 100000, 8);
        bond(Desks.with(20260101, 20260102, 0, 12, 1).get(), 20260101, 20260102, 0, 12, 1, 10000, 100000, 1);
        bond(Desks.with(20200301, 20300301, 2000, 12, 2).get(), 20200301, 20300301, 2000, 12, 2, 10000, 100000, 120);
    }

    private static void next(BondDesk desk, int due) {
        Check.same("the next one on " + desk.count(0), due, () -> desk.bond(0, 8));
    }

    @Says(at = "Promise 10", words = "8 the number of the next one that is not looked at, -1 if it is gone")
    static void tellsTheNextOne() {
        next(Desks.with(20260101, 20270101, 0, 12, 1).get(), 0);
        next(Desks.with(20251231, 20270101, 0, 12, 1).get(), 1);
        next(Desks.with(20250102, 20260102, 0, 12, 1).get(), 11);
        next(halfOn(20260114), 1);
        next(halfOn(20260115), 2);
        next(halfOn(20270114), 3);
        for (Supplier<BondDesk> made : gone()) {
            next(made.get(), -1);
        }
    }

    @Says(at = "Promise 10", words = "9 0 if it is there, 1 if it ended (also by its factor), 2 if it was called")
    static void tellsWhetherItIsThere() {
        int[] due = {1, 2, 1};
        for (int i = 0; i < 3; i++) {
            BondDesk desk = gone().get(i).get();
            Check.same("one that is gone", due[i], () -> desk.bond(0, 9));
        }
        Check.same("on the eve of its end", 0, () -> halfOn(20270114).bond(0, 9));
        Check.same("ahead of its issue", 0, () -> Desks.with(20270101, 20280101, 0, 1, 0).get().bond(0, 9));
    }

    @Says(at = "Promise 10", words = "10 pieces held")
    static void tellsPieces() {
        BondDesk desk = half();
        Check.same("none yet", 0, () -> desk.bond(0, 10));
        desk.buy(0, 1000, 10000);
        Check.same("all", 1000, () -> desk.bond(0, 10));
        desk.sell(0, 999, 10000);
        Check.same("one", 1, () -> desk.bond(0, 10));
        desk.sell(0, 1, 10000);
        Check.same("none any more", 0, () -> desk.bond(0, 10));
    }

    @Says(at = "Promise 10", words = "if there is no such bond")
    static void tellsNoBond() {
        for (int bond : Desks.NO_BONDS) {
            Check.refusedIndex("bond(" + bond + ", 0)", Desks::busy, desk -> desk.bond(bond, 0));
        }
        Check.refusedIndex("bond(0, 0) where there is none", BondDesk::new, desk -> desk.bond(0, 0));
        Check.refusedIndex("bond(10, 0) behind ten", Desks::full, desk -> desk.bond(10, 0));
        Check.same("bond(9, 0), the last of ten", 20250115, () -> Desks.full().bond(9, 0));
        Check.same("bond(3, 0), the last of four", 20260120, () -> Desks.busy().bond(3, 0));
    }

    @Says(at = "Promise 10", words = "or what is not 0 to 10")
    static void tellsNothingElse() {
        for (int what : new int[] {-1, 11, Integer.MAX_VALUE, Integer.MIN_VALUE}) {
            Check.refusedIndex("bond(0, " + what + ")", Desks::busy, desk -> desk.bond(0, what));
            Check.refusedIndex("bond(4, " + what + ")", Desks::busy, desk -> desk.bond(4, what));
        }
        Check.same("the first", 20250115, () -> Desks.busy().bond(0, 0));
        Check.same("the last", 100, () -> Desks.busy().bond(0, 10));
    }

    // ---- Promise 11

    @Says(at = "Promise 11", words = "0 this date, 1 the working day on which it is paid, 2 the beginning of its period,"
            + " 3 the coupon for a face of 100000")
    static void tellsACoupon() {
        BondDesk desk = Desks.with(20250120, 20270110, 333, 2, 2).get();
        int[][] due = {{20250710, 20250710, 20250120, 1560}, {20260110, 20260112, 20250710, 1665},
            {20260710, 20260710, 20260110, 1665}, {20270110, 20270111, 20260710, 1665}};
        for (int i = 0; i < 4; i++) {
            for (int what = 0; what < 4; what++) {
                int index = i;
                int asked = what;
                Check.same("coupon(0, " + i + ", " + what + ")", due[i][what], () -> desk.coupon(0, index, asked));
            }
        }
    }

    @Says(at = "Promise 11", words = "1 the working day on which it is paid")
    static void tellsTheLastWorkingDay() {
        BondDesk desk = Desks.with(20250101, 20661101, 0, 1, 0).get();
        int last = desk.bond(0, 7) - 1;
        Check.same("on its end", 20661101, () -> desk.coupon(0, last, 1));
        desk.addHoliday(20661101);
        desk.addHoliday(20661102);
        Check.same("behind its end", 20661103, () -> desk.coupon(0, last, 1));
        Check.same("its end", 20661101, () -> desk.coupon(0, last, 0));
    }

    @Says(at = "Promise 11", words = "3 the coupon for a face of 100000")
    static void tellsACouponBehindASinking() {
        BondDesk desk = half();
        desk.setSink(0, 20160101, 5000);
        Desks.passTo(desk, 20260115);
        Check.same("of a factor of 5000", 5000, () -> desk.coupon(0, 2, 3));
        Desks.passTo(desk, 20260715);
        Check.same("of one that is gone", 5000, () -> desk.coupon(0, 3, 3));
        Check.same("its date", 20270115, () -> desk.coupon(0, 3, 0));
    }

    @Says(at = "Promise 11", words = "if there is no such bond")
    static void tellsACouponOfNoBond() {
        for (int bond : Desks.NO_BONDS) {
            Check.refusedIndex("coupon(" + bond + ", 0, 0)", Desks::busy, desk -> desk.coupon(bond, 0, 0));
        }
        Check.refusedIndex("coupon(0, 0, 0) where there is none", BondDesk::new, desk -> desk.coupon(0, 0, 0));
        Check.refusedIndex("coupon(10, 0, 0) behind ten", Desks::full, desk -> desk.coupon(10, 0, 0));
        Check.same("coupon(9, 0, 0), the last of ten", 20250715, () -> Desks.full().coupon(9, 0, 0));
    }

    @Says(at = "Promise 11", words = "or coupon date")
    static void tellsNoCoupon() {
        for (int index : new int[] {-1, 4, 119, 120, Integer.MAX_VALUE, Integer.MIN_VALUE}) {
            for (int what = 0; what < 4; what++) {
                int asked = what;
                Check.refusedIndex("coupon(0, " + index + ", " + what + ")", Desks::busy,
                        desk -> desk.coupon(0, index, asked));
            }
        }
        Check.same("the last one", 20270115, () -> half().coupon(0, 3, 0));
        BondDesk most = Desks.with(20200301, 20300301, 100, 12, 0).get();
        Check.same("the last one of 120", 20300301, () -> most.coupon(0, 119, 0));
        Check.badIndex(most, "one more", () -> most.coupon(0, 120, 0));
        BondDesk one = Desks.with(20260101, 20270101, 100, 1, 0).get();
        Check.same("the only one", 20270101, () -> one.coupon(0, 0, 0));
        Check.badIndex(one, "one more", () -> one.coupon(0, 1, 0));
    }

    @Says(at = "Promise 11", words = "or what is not 0 to 3")
    static void tellsNothingElseOfACoupon() {
        for (int what : new int[] {-1, 4, Integer.MAX_VALUE, Integer.MIN_VALUE}) {
            Check.refusedIndex("coupon(0, 0, " + what + ")", Desks::busy, desk -> desk.coupon(0, 0, what));
            Check.refusedIndex("coupon(0, 4, " + what + ")", Desks::busy, desk -> desk.coupon(0, 4, what));
            Check.refusedIndex("coupon(4, 0, " + what + ")", Desks::busy, desk -> desk.coupon(4, 0, what));
        }
    }

    // ---- Promise 12

    @Says(at = "Promise 12", words = "Returns what is accrued for a piece on it, by its face now.")
    static void accruedOnTheFirstAndTheLastDate() {
        BondDesk desk = Desks.with(20250115, 20270115, 720, 2, 0).get();
        accrued(desk, 20160101, 0);
        accrued(desk, 20250114, 0);
        accrued(desk, 20250116, 20);
        accrued(desk, 20270114, 3580);
        accrued(desk, 20270115, 0);
        accrued(desk, 20661231, 0);
    }

    @Says(at = "Promise 12", words = "if there is no such bond")
    static void accruedOfNoBond() {
        for (int bond : Desks.NO_BONDS) {
            Check.refusedIndex("accrued of " + bond, Desks::busy, desk -> desk.accrued(bond, 20260101));
        }
        Check.refusedIndex("accrued where there is none", BondDesk::new, desk -> desk.accrued(0, 20260101));
        Check.refusedIndex("accrued behind ten", Desks::full, desk -> desk.accrued(10, 20260101));
        Check.same("accrued of the last of ten", 27, () -> Desks.full().accrued(9, 20260116));
    }

    @Says(at = "Promise 12", words = "if there is no such date")
    static void accruedOnNoDate() {
        for (int date : Desks.NO_DATES) {
            Check.refusedArgument("accrued on " + date, Desks::busy, desk -> desk.accrued(0, date));
            Check.refusedArgument("accrued of one that is gone on " + date, Desks::busy, desk -> desk.accrued(2, date));
        }
    }

    @Says(at = "Promise 12", words = {"Throws `IndexOutOfBoundsException` if there is no such bond",
        "Throws `IllegalArgumentException` if there is no such date"})
    static void accruedOfNoBondOnNoDate() {
        for (int bond : Desks.NO_BONDS) {
            Check.refusedIndex("accrued of " + bond, Desks::busy, desk -> desk.accrued(bond, 20260229));
        }
    }
}
