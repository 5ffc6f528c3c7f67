import java.time.LocalDate;

/** Promises 1 to 5: a new object, later, weekday, addHoliday, working. */
public final class DatesTest {
    public static void main(String[] args) {
        newObject();
        later();
        laterBad();
        everyDay();
        weekday();
        addHoliday();
        addHolidayBad();
        working();
        workingBehindHolidays();
        Check.end();
    }

    private static void newObject() {
        BondDesk desk = new BondDesk();
        long[] counts = {20260101, 200000000, 300, 0, 0, 0, 0, 0, 0, 0, 0, 0};
        long d = 647;
        for (int what = 0; what < counts.length; what++) {
            int asked = what;
            Check.same("new: count(" + what + ")", counts[what], () -> desk.count(asked));
            d = d * 31 + counts[what];
        }
        Check.same("new: digest()", d, desk::digest);
        Check.same("new: years()", 0.0, desk::years);
        Check.same("new: working(20260101)", 20260101, () -> desk.working(20260101));
        Check.badIndex(desk, "new: bond(0, 0)", () -> desk.bond(0, 0));
        Check.same("two desks share nothing", 1, () -> new BondDesk().addHoliday(20260101));
        Check.same("two desks share nothing", 1, () -> new BondDesk().addHoliday(20260102));
    }

    private static void later(int date, int days, int due) {
        Check.same("later(" + date + ", " + days + ")", due, () -> new BondDesk().later(date, days));
    }

    private static void later() {
        later(20260101, 0, 20260101);
        later(20260101, 31, 20260201);
        later(20260201, -1, 20260131);
        later(20280228, 1, 20280229);
        later(20280301, -1, 20280229);
        later(20270228, 1, 20270301);
        later(20160101, 1000, 20180927);
        later(20661231, -1000, 20640405);
        later(20661230, 1, 20661231);
        later(20160102, -1, 20160101);
        later(20201231, 1, 20210101);
        later(20210101, -1, 20201231);
    }

    private static void laterBad(int date, int days) {
        BondDesk desk = new BondDesk();
        Check.badArgument(desk, "later(" + date + ", " + days + ")", () -> desk.later(date, days));
    }

    private static void laterBad() {
        int[] noDates = {20151231, 20670101, 20260230, 20270229, 20260431, 20260631, 20260931, 20261131, 20260132,
            20260100, 20260001, 20261301, 20260000, 0, -20260101, 101, Integer.MAX_VALUE, Integer.MIN_VALUE};
        for (int date : noDates) {
            laterBad(date, 0);
            BondDesk desk = new BondDesk();
            Check.badArgument(desk, "weekday(" + date + ")", () -> desk.weekday(date));
            Check.badArgument(desk, "addHoliday(" + date + ")", () -> desk.addHoliday(date));
            Check.badArgument(desk, "working(" + date + ")", () -> desk.working(date));
        }
        laterBad(20260101, 1001);
        laterBad(20260101, -1001);
        laterBad(20260101, Integer.MAX_VALUE);
        laterBad(20260101, Integer.MIN_VALUE);
        laterBad(20661231, 1);
        laterBad(20160101, -1);
        laterBad(20640406, 1000);
        laterBad(20180926, -1000);
        later(20640405, 1000, 20661231);
        later(20180927, -1000, 20160101);
    }

    private static int told(LocalDate date) {
        return 10000 * date.getYear() + 100 * date.getMonthValue() + date.getDayOfMonth();
    }

    private static void everyDay() {
        LocalDate last = LocalDate.of(2066, 12, 31);
        for (LocalDate date = LocalDate.of(2016, 1, 1); date.isBefore(last); date = date.plusDays(1)) {
            int day = told(date);
            BondDesk desk = new BondDesk();
            Check.same("later(" + day + ", 1)", told(date.plusDays(1)), () -> desk.later(day, 1));
            Check.same("weekday(" + day + ")", date.getDayOfWeek().getValue() - 1, () -> desk.weekday(day));
        }
    }

    private static void weekday() {
        BondDesk desk = new BondDesk();
        for (int i = 0; i < 7; i++) {
            int date = 20260105 + i;
            Check.same("weekday(" + date + ")", i, () -> desk.weekday(date));
        }
        Check.same("weekday(20160101)", 4, () -> desk.weekday(20160101));
        Check.same("weekday(20661231)", 4, () -> desk.weekday(20661231));
        desk.addHoliday(20260105);
        Check.same("weekday of a holiday", 0, () -> desk.weekday(20260105));
    }

    private static void addHoliday() {
        BondDesk desk = new BondDesk();
        Check.same("addHoliday(20260106)", 1, () -> desk.addHoliday(20260106));
        Check.same("addHoliday(20160101)", 2, () -> desk.addHoliday(20160101));
        Check.same("addHoliday(20661231)", 3, () -> desk.addHoliday(20661231));
        Check.same("a holiday on a Sunday", 4, () -> desk.addHoliday(20260104));
        Check.same("addHoliday(20260106) again", 4, () -> desk.addHoliday(20260106));
        Check.same("addHoliday(20260104) again", 4, () -> desk.addHoliday(20260104));
        Check.same("count(5)", 4L, () -> desk.count(5));
    }

    private static void addHolidayBad() {
        BondDesk desk = new BondDesk();
        for (int i = 1; i <= 30; i++) {
            int date = 20270300 + i;
            Check.same("addHoliday(" + date + ")", i, () -> desk.addHoliday(date));
        }
        Check.badState(desk, "the 31st addHoliday", () -> desk.addHoliday(20270331));
        Check.badArgument(desk, "addHoliday of no date behind 30", () -> desk.addHoliday(20270332));
        Check.same("a known one behind 30", 30, () -> desk.addHoliday(20270301));
        Check.same("the last known one behind 30", 30, () -> desk.addHoliday(20270330));
    }

    private static void working(BondDesk desk, int date, int due) {
        Check.same("working(" + date + ")", due, () -> desk.working(date));
    }

    private static void working() {
        BondDesk desk = new BondDesk();
        working(desk, 20260101, 20260101);
        working(desk, 20260102, 20260102);
        working(desk, 20260103, 20260105);
        working(desk, 20260104, 20260105);
        working(desk, 20260131, 20260202);
        working(desk, 20160102, 20160104);
        working(desk, 20661101, 20661101);
        Check.badArgument(desk, "working(20661102)", () -> desk.working(20661102));
        Check.badArgument(desk, "working(20661231)", () -> desk.working(20661231));
        desk.addHoliday(20260102);
        desk.addHoliday(20260105);
        working(desk, 20260101, 20260101);
        working(desk, 20260102, 20260106);
        working(desk, 20260103, 20260106);
        working(desk, 20260105, 20260106);
    }

    private static void workingBehindHolidays() {
        BondDesk desk = new BondDesk();
        int date = 20661101;
        for (int i = 0; i < 30; i++) {
            while (desk.weekday(date) > 4) {
                date = desk.later(date, 1);
            }
            desk.addHoliday(date);
            date = desk.later(date, 1);
        }
        working(desk, 20661101, 20661213);
    }
}
