import java.time.LocalDate;

/** The boundary cases of the terms' part 1 and of promises 1 to 5, each sentence in a test of its own. */
public final class DatesEdgesTest {
    public static void main(String[] args) {
        Edges.run(DatesEdgesTest.class);
    }

    private static void later(int date, int days, int due) {
        Check.same("later(" + date + ", " + days + ")", due, () -> new BondDesk().later(date, days));
    }

    private static void weekday(int date, int due) {
        Check.same("weekday(" + date + ")", due, () -> new BondDesk().weekday(date));
    }

    private static void noDate(int date) {
        BondDesk desk = new BondDesk();
        Check.badArgument(desk, "weekday(" + date + ")", () -> desk.weekday(date));
    }

    private static void working(BondDesk desk, int date, int due) {
        Check.same("working(" + date + ")", due, () -> desk.working(date));
    }

    // ---- Terms, part 1

    @Says(at = "Terms 1", words = "A date is told as 10000 * year + 100 * month + day, from 20160101 to 20661231")
    static void firstAndLastDate() {
        weekday(20160101, 4);
        weekday(20661231, 4);
        noDate(20151231);
        noDate(20670101);
        for (int date : Desks.NO_DATES) {
            noDate(date);
        }
    }

    @Says(at = "Terms 1", words = "10000 * year + 100 * month + day")
    static void firstAndLastDayOfEachMonth() {
        for (int year = 2026; year <= 2029; year++) {
            for (int month = 1; month <= 12; month++) {
                LocalDate first = LocalDate.of(year, month, 1);
                int last = Desks.date(first) + first.lengthOfMonth() - 1;
                weekday(Desks.date(first), first.getDayOfWeek().getValue() - 1);
                weekday(last, Desks.day(last).getDayOfWeek().getValue() - 1);
                noDate(Desks.date(first) - 1);
                noDate(last + 1);
                later(last, 1, Desks.date(first.plusMonths(1)));
                later(Desks.date(first), -1, Desks.date(first.minusDays(1)));
            }
            noDate(10000 * year + 1);
            noDate(10000 * year + 1301);
        }
    }

    @Says(at = "Terms 1", words = "a year has a February 29, if it can be divided by 4 (2100 is beyond)")
    static void februaryOfEachYear() {
        for (int year = 2016; year <= 2066; year++) {
            int last = 10000 * year + (year % 4 == 0 ? 229 : 228);
            later(last, 1, 10000 * year + 301);
            later(10000 * year + 301, -1, last);
            later(last, 0, last);
            noDate(last + 1);
            noDate(10000 * year + 230);
        }
    }

    // At a rate of 365 and by way 2 each day is 10 cents.
    @Says(at = "Terms 1", words = "The days from one date to another one are those of the calendar.")
    static void daysOverFebruary29() {
        BondDesk desk = new BondDesk();
        desk.addBond(20270301, 20290301, 365, 1, 2);
        Check.same("till February 28, 2028", 3640, () -> desk.accrued(0, 20280228));
        Check.same("till February 29, 2028", 3650, () -> desk.accrued(0, 20280229));
        Check.same("till February 28, 2029", 3640, () -> desk.accrued(0, 20290228));
        BondDesk other = Desks.with(20270101, 20280301, 365, 1, 2).get();
        Check.same("over the end of a year", 3060, () -> other.accrued(0, 20280101));
    }

    @Says(at = "Terms 1", words = "Saturdays and Sundays (January 1, 2026, is a Thursday) and holidays are no working days")
    static void workingDays() {
        BondDesk desk = new BondDesk();
        weekday(20260101, 3);
        working(desk, 20260101, 20260101);
        working(desk, 20260102, 20260102);
        working(desk, 20260103, 20260105);
        working(desk, 20260104, 20260105);
        working(desk, 20260105, 20260105);
        desk.addHoliday(20260105);
        working(desk, 20260105, 20260106);
        working(desk, 20260102, 20260102);
    }

    @Says(at = "Terms 1", words = "there are at most 30 holidays")
    static void atMost30Holidays() {
        BondDesk desk = new BondDesk();
        for (int i = 1; i <= 30; i++) {
            int date = 20270300 + i;
            Check.same("addHoliday(" + date + ")", i, () -> desk.addHoliday(date));
        }
        Check.badState(desk, "one more", () -> desk.addHoliday(20270331));
        Check.same("the last one is a holiday", 20270331, () -> desk.working(20270330));
    }

    private static void dates(int issue, int end, int f, int... due) {
        BondDesk desk = Desks.with(issue, end, 100, f, 0).get();
        Check.same("coupon dates back from " + end, due.length, () -> desk.bond(0, 7));
        for (int i = 0; i < due.length; i++) {
            int index = i;
            Check.same("coupon date " + i + " back from " + end, due[i], () -> desk.coupon(0, index, 0));
        }
    }

    @Says(at = "Terms 1", words = "A date moved by months: as many months on or back, with the same day")
    static void movedOverYears() {
        dates(20261101, 20270115, 12, 20261115, 20261215, 20270115);
        dates(20260201, 20270115, 4, 20260415, 20260715, 20261015, 20270115);
        dates(20250801, 20270115, 2, 20260115, 20260715, 20270115);
        dates(20250101, 20270115, 1, 20250115, 20260115, 20270115);
        dates(20261115, 20270228, 12, 20261130, 20261231, 20270131, 20270228);
        dates(20251201, 20261201, 4, 20260301, 20260601, 20260901, 20261201);
    }

    @Says(at = "Terms 1", words = "or the last day of that month, if it has no such day.")
    static void movedToShortMonths() {
        dates(20260101, 20260330, 12, 20260130, 20260228, 20260330);
        dates(20280101, 20280330, 12, 20280130, 20280229, 20280330);
        dates(20260101, 20260329, 12, 20260129, 20260228, 20260329);
        dates(20280101, 20280329, 12, 20280129, 20280229, 20280329);
        dates(20260101, 20260328, 12, 20260128, 20260228, 20260328);
        dates(20280101, 20280328, 12, 20280128, 20280228, 20280328);
    }

    // ---- Promise 1

    @Says(at = "Promise 1", words = "Creates a desk without bonds and holidays.")
    static void nothingThereYet() {
        BondDesk desk = new BondDesk();
        Check.same("bonds", 0L, () -> desk.count(3));
        Check.same("bonds that are there", 0L, () -> desk.count(4));
        Check.same("holidays", 0L, () -> desk.count(5));
        Check.same("pieces", 0L, () -> desk.count(6));
        Check.same("their worth", 0L, () -> desk.count(11));
        Check.badIndex(desk, "bond 0", () -> desk.bond(0, 0));
        Check.same("the best one", -1, () -> desk.best(1));
        Check.same("a ladder", -1, () -> desk.ladder(2026, 2026));
        Check.same("what is paid", 0L, () -> desk.paysIn(2026));
        Check.same("years", 0.0, desk::years);
        Check.same("the first bond", 0, () -> Desks.half(desk));
        Check.same("the first holiday", 1, () -> desk.addHoliday(20260101));
    }

    @Says(at = "Promise 1", words = "Creates a desk")
    static void desksShareNothing() {
        BondDesk one = Desks.full();
        BondDesk other = new BondDesk();
        Check.same("holidays of the one", 30L, () -> one.count(5));
        Check.same("holidays of the other", 0L, () -> other.count(5));
        Check.same("bonds of the other", 0L, () -> other.count(3));
        Check.same("cash of the other", 200000000L, () -> other.count(1));
    }

    // ---- Promise 2

    @Says(at = "Promise 2", words = "how many days, -1000 to 1000")
    static void laterByTheMostDays() {
        later(20260101, 1000, 20280927);
        later(20260101, 999, 20280926);
        later(20260101, -1000, 20230407);
        later(20260101, -999, 20230408);
        later(20260101, 0, 20260101);
    }

    @Says(at = "Promise 2", words = "Returns the date so many days later (earlier, if they are less than 0).")
    static void laterByOneDay() {
        later(20260101, 1, 20260102);
        later(20260101, -1, 20251231);
        later(20271231, 1, 20280101);
        later(20280101, -1, 20271231);
        later(20281231, 1, 20290101);
        later(20290101, -1, 20281231);
    }

    @Says(at = "Promise 2", words = "if there is no such date")
    static void laterThanNoDate() {
        for (int date : Desks.NO_DATES) {
            Check.refusedArgument("later(" + date + ", 0)", Desks::busy, desk -> desk.later(date, 0));
        }
    }

    @Says(at = "Promise 2", words = "days is not -1000 to 1000")
    static void laterByTooManyDays() {
        for (int days : new int[] {1001, -1001, Integer.MAX_VALUE, Integer.MIN_VALUE}) {
            Check.refusedArgument("later by " + days, Desks::busy, desk -> desk.later(20400101, days));
        }
    }

    @Says(at = "Promise 2", words = "the date that is reached is not from 20160101 to 20661231")
    static void laterBeyondTheCalendar() {
        later(20661230, 1, 20661231);
        later(20661231, 0, 20661231);
        later(20640406, 999, 20661231);
        later(20640405, 1000, 20661231);
        later(20160102, -1, 20160101);
        later(20160101, 0, 20160101);
        later(20180927, -1000, 20160101);
        Check.refusedArgument("one day behind", Desks::busy, desk -> desk.later(20661231, 1));
        Check.refusedArgument("1000 days from the end", Desks::busy, desk -> desk.later(20640406, 1000));
        Check.refusedArgument("far behind", Desks::busy, desk -> desk.later(20661231, 1000));
        Check.refusedArgument("one day ahead", Desks::busy, desk -> desk.later(20160101, -1));
        Check.refusedArgument("1000 days from the beginning", Desks::busy, desk -> desk.later(20180926, -1000));
        Check.refusedArgument("far ahead", Desks::busy, desk -> desk.later(20160101, -1000));
    }

    // ---- Promise 3

    @Says(at = "Promise 3", words = "Returns 0 for a Monday to 6 for a Sunday.")
    static void firstAndLastWeekday() {
        for (int i = 0; i < 14; i++) {
            weekday(20260105 + i, i % 7);
        }
        weekday(20160103, 6);
        weekday(20160104, 0);
        weekday(20661226, 6);
        weekday(20661227, 0);
    }

    @Says(at = "Promise 3", words = "if there is no such date")
    static void weekdayOfNoDate() {
        for (int date : Desks.NO_DATES) {
            Check.refusedArgument("weekday(" + date + ")", Desks::busy, desk -> desk.weekday(date));
        }
    }

    // ---- Promise 4

    @Says(at = "Promise 4", words = "one that was told already is not told again.")
    static void holidayToldAgain() {
        BondDesk desk = new BondDesk();
        Check.same("the first one", 1, () -> desk.addHoliday(20260106));
        Check.same("again", 1, () -> desk.addHoliday(20260106));
        Check.same("a second one", 2, () -> desk.addHoliday(20260105));
        Check.same("the first one again", 2, () -> desk.addHoliday(20260106));
        Check.same("the second one again", 2, () -> desk.addHoliday(20260105));
        Check.same("a third one", 3, () -> desk.addHoliday(20260107));
        Check.same("the first working day", 20260108, () -> desk.working(20260105));
    }

    @Says(at = "Promise 4", words = "Returns how many holidays there are")
    static void firstAndLastHoliday() {
        BondDesk desk = new BondDesk();
        Check.same("on the first date", 1, () -> desk.addHoliday(20160101));
        Check.same("on the last date", 2, () -> desk.addHoliday(20661231));
        Check.same("on a Saturday", 3, () -> desk.addHoliday(20260103));
        Check.same("today", 4, () -> desk.addHoliday(20260101));
        working(desk, 20160101, 20160104);
        working(desk, 20260101, 20260102);
    }

    @Says(at = "Promise 4", words = "if there is no such date")
    static void holidayOnNoDate() {
        for (int date : Desks.NO_DATES) {
            Check.refusedArgument("addHoliday(" + date + ")", Desks::busy, desk -> desk.addHoliday(date));
        }
    }

    @Says(at = "Promise 4", words = "if it is a new one, and there are 30")
    static void holiday31() {
        Check.refusedState("a new one behind them", Desks::full, desk -> desk.addHoliday(20270331));
        Check.refusedState("a new one ahead of them", Desks::full, desk -> desk.addHoliday(20160101));
        BondDesk desk = Desks.full();
        for (int day = 1; day <= 30; day++) {
            int date = 20270300 + day;
            Check.same("the known " + date, 30, () -> desk.addHoliday(date));
        }
        BondDesk one = new BondDesk();
        for (int day = 1; day <= 29; day++) {
            one.addHoliday(20270300 + day);
        }
        Check.same("a known one of 29", 29, () -> one.addHoliday(20270301));
        Check.same("the last place", 30, () -> one.addHoliday(20661231));
        Check.same("the one on the last place again", 30, () -> one.addHoliday(20661231));
    }

    @Says(at = "Promise 4", words = {"Throws `IllegalArgumentException` if there is no such date",
        "Throws `IllegalStateException` if it is a new one, and there are 30"})
    static void holidayOnNoDateBehind30() {
        for (int date : Desks.NO_DATES) {
            Check.refusedArgument("addHoliday(" + date + ")", Desks::full, desk -> desk.addHoliday(date));
        }
    }

    // ---- Promise 5

    @Says(at = "Promise 5", words = "Returns the first working day that is this date or later.")
    static void thisDateOrLater() {
        BondDesk desk = new BondDesk();
        working(desk, 20160101, 20160101);
        working(desk, 20160102, 20160104);
        working(desk, 20260109, 20260109);
        working(desk, 20260110, 20260112);
        working(desk, 20260228, 20260302);
        working(desk, 20271231, 20271231);
        working(desk, 20280101, 20280103);
    }

    @Says(at = "Promise 5", words = "a date, to 20661101")
    static void lastDateOfWorking() {
        BondDesk desk = new BondDesk();
        working(desk, 20661101, 20661101);
        working(desk, 20661031, 20661101);
        desk.addHoliday(20661101);
        working(desk, 20661101, 20661102);
        working(desk, 20661030, 20661102);
    }

    // 30 holidays in a row from 20661101 on, but for the weekends.
    @Says(at = "Promise 5", words = "Returns the first working day")
    static void workingBehindAllHolidays() {
        BondDesk desk = new BondDesk();
        LocalDate day = LocalDate.of(2066, 11, 1);
        int told = 0;
        while (told < 30) {
            if (day.getDayOfWeek().getValue() < 6) {
                desk.addHoliday(Desks.date(day));
                told++;
            }
            day = day.plusDays(1);
        }
        working(desk, 20661101, 20661213);
        working(desk, 20661030, 20661213);
        working(desk, 20661029, 20661029);
    }

    @Says(at = "Promise 5", words = "if there is no such date")
    static void workingOnNoDate() {
        for (int date : Desks.NO_DATES) {
            Check.refusedArgument("working(" + date + ")", Desks::busy, desk -> desk.working(date));
        }
    }

    @Says(at = "Promise 5", words = "or it is later than 20661101")
    static void workingTooLate() {
        for (int date : new int[] {20661102, 20661130, 20661201, 20661231}) {
            Check.refusedArgument("working(" + date + ")", Desks::busy, desk -> desk.working(date));
        }
    }
}
