import java.time.LocalDate;
import java.time.temporal.ChronoUnit;
import java.util.function.Supplier;

/** Desks that tests begin with, and what a desk tells of itself. */
final class Desks {
    static final int[] NO_DATES = {20151231, 20670101, 20260001, 20261301, 20260100, 20260132, 20260229, 20260431,
        0, -20260101, 260101, Integer.MAX_VALUE, Integer.MIN_VALUE};

    /** On a busy desk there are the bonds 0 to 3. */
    static final int[] NO_BONDS = {-1, 4, 9, 10, Integer.MAX_VALUE, Integer.MIN_VALUE};
    static final int[] NO_PRICES = {-1, 0, 30001, Integer.MAX_VALUE, Integer.MIN_VALUE};

    private Desks() {
    }

    /** Holidays, bonds with sinking funds and calls, pieces held, and one bond that is gone, on January 5, 2026. */
    static BondDesk busy() {
        BondDesk desk = new BondDesk();
        desk.addHoliday(20260106);
        desk.addHoliday(20260716);
        half(desk);
        desk.addBond(20250301, 20280228, 450, 4, 3);
        desk.addBond(20250105, 20260105, 0, 1, 1);
        desk.addBond(20260120, 20300120, 600, 12, 2);
        desk.setSink(0, 20260715, 2000);
        desk.setSink(1, 20260601, 500);
        desk.setCall(1, 20270301, 10100);
        desk.setCall(3, 20260920, 10250);
        desk.setRate(350);
        desk.buy(0, 100, 10000);
        desk.buy(1, 200, 9950);
        desk.buy(2, 50, 9900);
        desk.pass(4);
        return desk;
    }

    /** All places taken: 30 holidays, in March 2027, and ten bonds, of which some pieces are held. */
    static BondDesk full() {
        BondDesk desk = new BondDesk();
        for (int day = 1; day <= 30; day++) {
            desk.addHoliday(20270300 + day);
        }
        for (int i = 0; i < 10; i++) {
            half(desk);
            desk.buy(i, 10 + i, 10000);
        }
        return desk;
    }

    /** A bond with coupons of 5000 on July 15, 2025, January 15 and July 15, 2026, and January 15, 2027. */
    static int half(BondDesk desk) {
        return desk.addBond(20250115, 20270115, 1000, 2, 0);
    }

    static Supplier<BondDesk> with(int issue, int end, int rate, int f, int way) {
        return () -> {
            BondDesk desk = new BondDesk();
            desk.addBond(issue, end, rate, f, way);
            return desk;
        };
    }

    /** Lets days go by up to a date; tells what is paid in them. */
    static long passTo(BondDesk desk, int date) {
        long paid = 0;
        long days = ChronoUnit.DAYS.between(day((int) desk.count(0)), day(date));
        while (days > 0) {
            int some = (int) Math.min(days, 400);
            paid += desk.pass(some);
            days -= some;
        }
        return paid;
    }

    static LocalDate day(int date) {
        return LocalDate.of(date / 10000, date / 100 % 100, date % 100);
    }

    static int date(LocalDate day) {
        return 10000 * day.getYear() + 100 * day.getMonthValue() + day.getDayOfMonth();
    }

    /** The digest, from what the calls tell; the holidays are named as they were told. */
    static long plainDigest(BondDesk desk, int... holidays) {
        long d = 647;
        for (int what = 0; what <= 11; what++) {
            d = d * 31 + desk.count(what);
        }
        for (int holiday : holidays) {
            d = d * 31 + holiday;
        }
        for (int bond = 0; bond < desk.count(3); bond++) {
            for (int what = 0; what <= 10; what++) {
                d = d * 31 + desk.bond(bond, what);
            }
            d = d * 31 + desk.accrued(bond, (int) desk.count(0));
            for (int i = 0; i < desk.bond(bond, 7); i++) {
                d = d * 31 + desk.coupon(bond, i, 0);
                d = d * 31 + desk.coupon(bond, i, 3);
            }
        }
        return d;
    }

    /** All that a desk tells today and on four days to come: two desks that tell the same are alike. */
    static String portrait(BondDesk desk) {
        StringBuilder told = new StringBuilder();
        for (int i = 0; i < 5; i++) {
            today(desk, told);
            add(told, () -> desk.pass(90));
        }
        return told.toString();
    }

    private static void today(BondDesk desk, StringBuilder told) {
        add(told, desk::digest);
        add(told, desk::years);
        add(told, () -> desk.best(10000));
        add(told, () -> desk.ladder(2027, 2028));
        for (int year = 2026; year <= 2030; year++) {
            int asked = year;
            add(told, () -> desk.paysIn(asked));
        }
        for (int bond = 0; bond < desk.count(3); bond++) {
            int asked = bond;
            add(told, () -> desk.callsAt(asked));
            add(told, () -> desk.worth(asked, 300));
        }
    }

    private static void add(StringBuilder told, Check.Call call) {
        told.append(Check.told(call)).append(' ');
    }
}
