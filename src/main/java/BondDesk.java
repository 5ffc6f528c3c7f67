/**
 * A desk for bonds.
 *
 * <p>Bonds with coupons, sinking funds and calls are told to it, pieces are bought and sold, and
 * days go by; dates are told as 10000 * year + 100 * month + day, money in cents, and rates, yields,
 * prices and parts in hundredths of a percent. Every index, divisor and reference is tested where it
 * is used, even where a caller has seen to it already: the machine itself must never throw here.
 */
public final class BondDesk {
    private static final int ALL = 10000;
    private static final int MOST_HOLIDAYS = 30;
    private static final int MOST_BONDS = 10;
    private static final int MOST_PIECES = 1000;
    private static final int MOST_RATE = 2000;
    private static final int MOST_YIELD = 5000;
    private static final int MOST_PRICE = 30000;
    private static final int LAST_DESK_DATE = 20661101;
    private static final int FIRST_YEAR = 2016;
    private static final int LAST_YEAR = 2066;

    private final int[] holidays;
    private final Bond[] bonds;
    private final Ledger paid;
    private int holidayCount;
    private int bondCount;
    private int today;
    private long cash;
    private int refinancing;

    public BondDesk() {
        holidays = new int[MOST_HOLIDAYS];
        bonds = new Bond[MOST_BONDS];
        paid = new Ledger();
        today = 20260101;
        cash = 200000000L;
        refinancing = 300;
    }

    // ---- dates

    public int later(int date, int days) throws IllegalArgumentException {
        requireDate(date);
        if (days < -1000 || days > 1000) {
            throw new IllegalArgumentException("days is not -1000 to 1000");
        }
        int day = Dates.dayNumber(date) + days;
        if (day < 0 || day > Dates.dayNumber(Dates.LAST)) {
            throw new IllegalArgumentException("the date that is reached is beyond the calendar");
        }
        return Dates.dateOf(day);
    }

    public int weekday(int date) throws IllegalArgumentException {
        requireDate(date);
        return Dates.dayOfWeek(Dates.dayNumber(date));
    }

    public int addHoliday(int date) throws IllegalArgumentException, IllegalStateException {
        requireDate(date);
        if (isHoliday(date)) {
            return holidayCount;
        }
        if (holidayCount < 0 || holidayCount >= holidays.length) {
            throw new IllegalStateException("there are 30 holidays");
        }
        holidays[holidayCount] = date;
        holidayCount++;
        return holidayCount;
    }

    public int working(int date) throws IllegalArgumentException {
        requireDate(date);
        if (date > LAST_DESK_DATE) {
            throw new IllegalArgumentException("the date is later than 20661101");
        }
        return nextWorkingDate(date);
    }

    private static void requireDate(int date) {
        if (!Dates.isDate(date)) {
            throw new IllegalArgumentException("there is no such date");
        }
    }

    // A place that holds no holiday yet is 0, which is no date.
    private boolean isHoliday(int date) {
        for (int holiday : holidays) {
            if (holiday == date) {
                return true;
            }
        }
        return false;
    }

    private boolean isWorkingDay(int day) {
        return Dates.dayOfWeek(day) < 5 && !isHoliday(Dates.dateOf(day));
    }

    // 30 holidays and the weekends among them can't close 100 days in a row.
    private int nextWorkingDate(int date) {
        int day = Dates.dayNumber(date);
        for (int i = 0; i < 100; i++) {
            if (isWorkingDay(day + i)) {
                return Dates.dateOf(day + i);
            }
        }
        return date;
    }

    // ---- bonds

    public int addBond(int issue, int end, int rate, int f, int way)
            throws IllegalArgumentException, IllegalStateException {
        requireLife(issue, end);
        requireTerms(rate, f, way);
        int coupons = Schedule.countCoupons(issue, end, f);
        if (coupons < 1 || coupons > Schedule.MOST_COUPONS) {
            throw new IllegalArgumentException("there would be more than 120 coupon dates");
        }
        if (Schedule.dateBack(end, coupons, f) < Dates.FIRST) {
            throw new IllegalArgumentException("the first period begins earlier than 20160101");
        }
        if (bondCount < 0 || bondCount >= bonds.length) {
            throw new IllegalStateException("there are 10 bonds");
        }
        bonds[bondCount] = new Bond(new Schedule(issue, end, rate, f, way, coupons), today);
        bondCount++;
        return bondCount - 1;
    }

    public int setSink(int bond, int from, int part)
            throws IndexOutOfBoundsException, IllegalArgumentException, IllegalStateException {
        Bond told = bondNumbered(bond);
        requireDate(from);
        if (part < 0 || part > 5000) {
            throw new IllegalArgumentException("part is not 0 to 5000");
        }
        requireThere(told);
        told.sinkFrom = from;
        told.sinkPart = part;
        return told.factorBehind(told.schedule.dates.length - 1);
    }

    public int setCall(int bond, int from, int price)
            throws IndexOutOfBoundsException, IllegalArgumentException, IllegalStateException {
        Bond told = bondNumbered(bond);
        requireDate(from);
        if (price != 0 && (price < 8000 || price > 15000)) {
            throw new IllegalArgumentException("price is neither 0 nor 8000 to 15000");
        }
        requireThere(told);
        told.callFrom = from;
        told.callPrice = price;
        return told.firstCall();
    }

    public int setRate(int rate) throws IllegalArgumentException {
        requireRate(rate);
        int before = refinancing;
        refinancing = rate;
        return before;
    }

    public int bond(int bond, int what) throws IndexOutOfBoundsException {
        Bond told = bondNumbered(bond);
        if (what < 0 || what > 10) {
            throw new IndexOutOfBoundsException("what is not 0 to 10");
        }
        return told.tell(what);
    }

    public int coupon(int bond, int index, int what) throws IndexOutOfBoundsException {
        Schedule schedule = bondNumbered(bond).schedule;
        if (index < 0 || index >= schedule.dates.length) {
            throw new IndexOutOfBoundsException("there is no such coupon date");
        }
        switch (what) {
            case 0:
                return schedule.dates[index];
            case 1:
                return nextWorkingDate(schedule.dates[index]);
            case 2:
                return schedule.beginOf(index);
            case 3:
                return (int) schedule.couponFor(index, Bond.FACE);
            default:
                throw new IndexOutOfBoundsException("what is not 0 to 3");
        }
    }

    public int accrued(int bond, int date) throws IndexOutOfBoundsException, IllegalArgumentException {
        Bond told = bondNumbered(bond);
        requireDate(date);
        return (int) told.accruedOn(date);
    }

    private void requireLife(int issue, int end) {
        requireDate(issue);
        requireDate(end);
        if (end > LAST_DESK_DATE) {
            throw new IllegalArgumentException("the end is later than 20661101");
        }
        if (end <= issue || end <= today) {
            throw new IllegalArgumentException("the end is not later than the issue date and today");
        }
    }

    private static void requireTerms(int rate, int f, int way) {
        requireRate(rate);
        if (f != 1 && f != 2 && f != 4 && f != 12) {
            throw new IllegalArgumentException("f is not 1, 2, 4 or 12");
        }
        if (way < 0 || way > 3) {
            throw new IllegalArgumentException("way is not 0 to 3");
        }
    }

    private static void requireRate(int rate) {
        if (rate < 0 || rate > MOST_RATE) {
            throw new IllegalArgumentException("rate is not 0 to 2000");
        }
    }

    private static void requireThere(Bond told) {
        if (told.isGone()) {
            throw new IllegalStateException("the bond is gone");
        }
    }

    private Bond bondNumbered(int number) {
        Bond told = number >= 0 && number < bonds.length ? bonds[number] : null;
        if (told == null) {
            throw new IndexOutOfBoundsException("there is no such bond");
        }
        return told;
    }

    // ---- worth

    public int worth(int bond, int rate) throws IndexOutOfBoundsException, IllegalArgumentException {
        Bond told = bondNumbered(bond);
        requireYield(rate);
        return (int) told.worthAt(today, told.factor, rate);
    }

    public int yields(int bond, int price) throws IndexOutOfBoundsException, IllegalArgumentException {
        Bond told = bondNumbered(bond);
        requirePrice(price);
        return told.yieldAt(today, price);
    }

    public int moves(int bond, int rate) throws IndexOutOfBoundsException, IllegalArgumentException {
        Bond told = bondNumbered(bond);
        requireYield(rate);
        return (int) (told.worthAt(today, told.factor, rate) - told.worthAt(today, told.factor, rate + 1));
    }

    public int callsAt(int bond) throws IndexOutOfBoundsException {
        return bondNumbered(bond).rateOfCall();
    }

    private static void requireYield(int rate) {
        if (rate < 0 || rate > MOST_YIELD) {
            throw new IllegalArgumentException("rate is not 0 to 5000");
        }
    }

    private static void requirePrice(int price) {
        if (price < 1 || price > MOST_PRICE) {
            throw new IllegalArgumentException("price is not 1 to 30000");
        }
    }

    // ---- the desk

    public long buy(int bond, int pieces, int price)
            throws IndexOutOfBoundsException, IllegalArgumentException, IllegalStateException {
        Bond told = bondNumbered(bond);
        requirePieces(pieces);
        requirePrice(price);
        requireWorkingDay();
        requireThere(told);
        if (!told.isIssued(today)) {
            throw new IllegalStateException("today is earlier than the issue date");
        }
        if (told.pieces + pieces > MOST_PIECES) {
            throw new IllegalStateException("there would be more than 1000 pieces");
        }
        long cost = pieces * told.fullPrice(today, price);
        if (cost > cash) {
            throw new IllegalStateException("the cash is not enough");
        }
        told.pieces += pieces;
        cash -= cost;
        return cost;
    }

    public long sell(int bond, int pieces, int price)
            throws IndexOutOfBoundsException, IllegalArgumentException, IllegalStateException {
        Bond told = bondNumbered(bond);
        requirePieces(pieces);
        requirePrice(price);
        requireWorkingDay();
        if (pieces > told.pieces) {
            throw new IllegalStateException("so many pieces are not held");
        }
        long got = pieces * told.fullPrice(today, price);
        told.pieces -= pieces;
        cash += got;
        return got;
    }

    public long pass(int days) throws IllegalArgumentException, IllegalStateException {
        if (days < 1 || days > 400) {
            throw new IllegalArgumentException("days is not 1 to 400");
        }
        int day = Dates.dayNumber(today);
        if (day + days > Dates.dayNumber(LAST_DESK_DATE)) {
            throw new IllegalStateException("the date would be later than 20661101");
        }
        long before = paid.all();
        for (int i = 1; i <= days; i++) {
            today = Dates.dateOf(day + i);
            if (isWorkingDay(day + i)) {
                lookAtBonds();
            }
        }
        long got = paid.all() - before;
        cash += got;
        return got;
    }

    public long count(int what) throws IndexOutOfBoundsException {
        if (what < 0 || what > 11) {
            throw new IndexOutOfBoundsException("what is not 0 to 11");
        }
        return tell(what);
    }

    public long paysIn(int year) throws IllegalArgumentException {
        requireYear(year);
        long sum = 0;
        for (Bond told : bonds) {
            if (told != null) {
                sum += told.pieces * told.paymentsIn(year, today);
            }
        }
        return sum;
    }

    public int ladder(int from, int to) throws IllegalArgumentException {
        requireYear(from);
        requireYear(to);
        if (to < from) {
            throw new IllegalArgumentException("to is earlier than from");
        }
        long sum = 0;
        for (int year = from; year <= to; year++) {
            long least = leastWorth(year);
            if (least < 0) {
                return -1;
            }
            sum += least;
        }
        return sum <= 0 ? 0 : (int) Math.min(cash / sum, 1000000L);
    }

    public int best(int price) throws IllegalArgumentException {
        requirePrice(price);
        int found = -1;
        int most = -1;
        for (int i = 0; i < bonds.length; i++) {
            Bond told = bonds[i];
            if (told != null && !told.isGone() && told.isIssued(today)) {
                int rate = told.yieldAt(today, price);
                if (rate > most) {
                    found = i;
                    most = rate;
                }
            }
        }
        return found;
    }

    public double years() {
        long faces = 0;
        long faceDays = 0;
        for (Bond told : bonds) {
            if (told != null) {
                long held = told.pieces * told.face();
                faces += held;
                faceDays += held * Dates.daysBetween(today, told.schedule.end);
            }
        }
        return faces <= 0 ? 0 : (double) faceDays / (double) faces / 365;
    }

    public long digest() {
        long d = 647;
        for (int what = 0; what <= 11; what++) {
            d = d * 31 + tell(what);
        }
        for (int i = 0; i < holidayCount && i < holidays.length; i++) {
            d = d * 31 + holidays[i];
        }
        for (Bond told : bonds) {
            if (told != null) {
                d = told.addTo(d, today);
            }
        }
        return d;
    }

    private static void requirePieces(int pieces) {
        if (pieces < 1 || pieces > MOST_PIECES) {
            throw new IllegalArgumentException("pieces is not 1 to 1000");
        }
    }

    private static void requireYear(int year) {
        if (year < FIRST_YEAR || year > LAST_YEAR) {
            throw new IllegalArgumentException("the year is not 2016 to 2066");
        }
    }

    private void requireWorkingDay() {
        if (!isWorkingDay(Dates.dayNumber(today))) {
            throw new IllegalStateException("today is no working day");
        }
    }

    private void lookAtBonds() {
        for (Bond told : bonds) {
            if (told != null) {
                told.lookUpTo(today, refinancing, paid);
            }
        }
    }

    // The least worth today of a bond for the rung of this year; -1 if there is none.
    private long leastWorth(int year) {
        long least = -1;
        for (Bond told : bonds) {
            if (told != null && told.isRung(year, today)) {
                long value = told.worthAt(today, told.factor, refinancing);
                if (least < 0 || value < least) {
                    least = value;
                }
            }
        }
        return least;
    }

    private long tell(int what) {
        switch (what) {
            case 0:
                return today;
            case 1:
                return cash;
            case 2:
                return refinancing;
            case 3:
                return bondCount;
            case 4:
                return bondsThere();
            case 5:
                return holidayCount;
            case 6:
                return piecesHeld();
            case 7:
                return paid.coupons;
            case 8:
                return paid.sinking;
            case 9:
                return paid.calls;
            case 10:
                return paid.ends;
            default:
                return worthHeld();
        }
    }

    private int bondsThere() {
        int there = 0;
        for (Bond told : bonds) {
            if (told != null && !told.isGone()) {
                there++;
            }
        }
        return there;
    }

    private int piecesHeld() {
        int held = 0;
        for (Bond told : bonds) {
            if (told != null) {
                held += told.pieces;
            }
        }
        return held;
    }

    private long worthHeld() {
        long sum = 0;
        for (Bond told : bonds) {
            if (told != null) {
                sum += told.pieces * told.worthAt(today, told.factor, refinancing);
            }
        }
        return sum;
    }

    /** All that was paid to the desk, by its kinds. */
    private static final class Ledger {
        long coupons;
        long sinking;
        long calls;
        long ends;

        long all() {
            return coupons + sinking + calls + ends;
        }
    }

    /** The calendar: its days are numbered from 0, which is 20160101, a Friday. */
    private static final class Dates {
        static final int FIRST = 20160101;
        static final int LAST = 20661231;

        // The days of a year ahead of each month, without a February 29.
        private static final int[] AHEAD = {0, 31, 59, 90, 120, 151, 181, 212, 243, 273, 304, 334};

        static int yearOf(int date) {
            return date / 10000;
        }

        static int monthOf(int date) {
            return date / 100 % 100;
        }

        static int dayOf(int date) {
            return date % 100;
        }

        static boolean isDate(int date) {
            if (date < FIRST || date > LAST) {
                return false;
            }
            int month = monthOf(date);
            int day = dayOf(date);
            return month >= 1 && month <= 12 && day >= 1 && day <= monthLength(yearOf(date), month);
        }

        static int monthLength(int year, int month) {
            if (month == 2) {
                return year % 4 == 0 ? 29 : 28;
            }
            return month == 4 || month == 6 || month == 9 || month == 11 ? 30 : 31;
        }

        // The year 2016 is the first of four and has the day more, so (years + 3) / 4 are its likes.
        static int dayNumber(int date) {
            int years = date / 10000 - FIRST_YEAR;
            int month = date / 100 % 100;
            int ahead = month >= 1 && month <= AHEAD.length ? AHEAD[month - 1] : 0;
            int leap = month > 2 && years % 4 == 0 ? 1 : 0;
            return 365 * years + (years + 3) / 4 + ahead + leap + date % 100 - 1;
        }

        static int dateOf(int day) {
            int years = 4 * day / 1461;
            int year = FIRST_YEAR + years;
            int rest = day - 365 * years - (years + 3) / 4;
            int month = 1;
            while (month < 12 && rest >= monthLength(year, month)) {
                rest -= monthLength(year, month);
                month++;
            }
            return 10000 * year + 100 * month + rest + 1;
        }

        static int dayOfWeek(int day) {
            return (day + 4) % 7;
        }

        static int daysBetween(int from, int to) {
            return dayNumber(to) - dayNumber(from);
        }

        static int daysOf30(int from, int to) {
            int first = Math.min(dayOf(from), 30);
            int second = first == 30 ? Math.min(dayOf(to), 30) : dayOf(to);
            return 360 * (yearOf(to) - yearOf(from)) + 30 * (monthOf(to) - monthOf(from)) + second - first;
        }

        // The end of a month stays the end of a month.
        static int monthsBack(int date, int months) {
            int all = 12 * yearOf(date) + monthOf(date) - 1 - months;
            int year = all / 12;
            int month = all % 12 + 1;
            int last = monthLength(year, month);
            boolean atEnd = dayOf(date) == monthLength(yearOf(date), monthOf(date));
            int day = atEnd ? last : Math.min(dayOf(date), last);
            return 10000 * year + 100 * month + day;
        }
    }

    /** The terms of a bond, which never change: when it pays its coupons, and how much for a face. */
    private static final class Schedule {
        static final int MOST_COUPONS = 120;

        final int issue;
        final int end;
        final int rate;
        final int perYear;
        final int way;
        final int regularBegin;
        final int[] dates;
        final long firstDays;
        final long firstYear;

        Schedule(int issue, int end, int rate, int perYear, int way, int coupons) {
            this.issue = issue;
            this.end = end;
            this.rate = rate;
            this.perYear = perYear;
            this.way = way;
            regularBegin = dateBack(end, coupons, perYear);
            dates = new int[Math.max(0, Math.min(coupons, MOST_COUPONS))];
            for (int i = 0; i < dates.length; i++) {
                dates[i] = dateBack(end, dates.length - 1 - i, perYear);
            }
            firstDays = daysCounted(issue, dates.length > 0 ? dates[0] : end);
            firstYear = yearOfPeriod(0);
        }

        static int dateBack(int end, int steps, int perYear) {
            return perYear <= 0 ? end : Dates.monthsBack(end, steps * (12 / perYear));
        }

        // How many coupon dates there are; one more than the most, if they are too many.
        static int countCoupons(int issue, int end, int perYear) {
            int coupons = 0;
            while (coupons <= MOST_COUPONS && dateBack(end, coupons, perYear) > issue) {
                coupons++;
            }
            return coupons;
        }

        int firstBehind(int date) {
            int index = 0;
            while (index < dates.length && dates[index] <= date) {
                index++;
            }
            return index;
        }

        int beginOf(int index) {
            return index >= 1 && index <= dates.length ? dates[index - 1] : issue;
        }

        long couponFor(int index, long face) {
            if (index == 0 && regularBegin < issue) {
                return firstYear <= 0 ? 0 : face * rate * firstDays / firstYear;
            }
            long divisor = 10000L * perYear;
            return divisor <= 0 ? 0 : face * rate / divisor;
        }

        long accruedFor(int date, long face) {
            int index = firstBehind(date);
            if (date < issue || index >= dates.length) {
                return 0;
            }
            long divisor = yearOfPeriod(index);
            return divisor <= 0 ? 0 : face * rate * daysCounted(beginOf(index), date) / divisor;
        }

        private long daysCounted(int from, int to) {
            return way == 0 ? Dates.daysOf30(from, to) : Dates.daysBetween(from, to);
        }

        // By what the days of a period are divided, so that a whole year at all of the rate is the face.
        private long yearOfPeriod(int index) {
            if (way == 2) {
                return 3650000;
            }
            if (way != 3 || index < 0 || index >= dates.length) {
                return 3600000;
            }
            int begin = index == 0 ? regularBegin : dates[index - 1];
            return 10000L * perYear * Dates.daysBetween(begin, dates[index]);
        }
    }

    /** A bond at the desk: its terms, what is left of it, and the pieces that are held. */
    private static final class Bond {
        static final long FACE = 100000;
        static final long BILLION = 1000000000;
        static final int THERE = 0;
        static final int ENDED = 1;
        static final int CALLED = 2;

        final Schedule schedule;
        int factor;
        int state;
        int next;
        int pieces;
        int sinkFrom;
        int sinkPart;
        int callFrom;
        int callPrice;

        Bond(Schedule schedule, int today) {
            this.schedule = schedule;
            factor = ALL;
            next = schedule.firstBehind(today);
        }

        boolean isGone() {
            return state != THERE;
        }

        boolean isIssued(int today) {
            return schedule.issue <= today;
        }

        boolean isRung(int year, int today) {
            return !isGone() && isIssued(today) && schedule.end > today && Dates.yearOf(schedule.end) == year;
        }

        static long faceOf(int part) {
            return FACE * part / ALL;
        }

        long face() {
            return faceOf(factor);
        }

        long accruedOn(int date) {
            return isGone() ? 0 : schedule.accruedFor(date, face());
        }

        // Asked only of a bond that is there.
        long fullPrice(int today, int price) {
            return face() * price / ALL + schedule.accruedFor(today, face());
        }

        private boolean isEnd(int index) {
            return index == schedule.dates.length - 1;
        }

        // How much of what is left of the factor goes on a coupon date.
        private int sunkOn(int index, int left) {
            boolean sinks = index >= 0 && index < schedule.dates.length - 1 && schedule.dates[index] >= sinkFrom;
            return sinks ? Math.min(sinkPart, left) : 0;
        }

        private long paymentOn(int index, int left) {
            return schedule.couponFor(index, faceOf(left)) + faceOf(isEnd(index) ? left : sunkOn(index, left));
        }

        int factorBehind(int index) {
            int left = factor;
            for (int i = next; i <= index; i++) {
                left -= sunkOn(i, left);
            }
            return left;
        }

        // The date and what is left of the factor are told, for a call looks ahead from its own date.
        long worthAt(int date, int left, int rate) {
            int first = schedule.firstBehind(date);
            long period = 10000L * schedule.perYear;
            if (isGone() || first >= schedule.dates.length || period <= 0 || rate < 0) {
                return 0;
            }
            long year = 3650000L + (long) rate * Dates.daysBetween(date, schedule.dates[first]);
            long weight = year <= 0 ? 0 : BILLION * 3650000L / year;
            long sum = 0;
            for (int i = first; i < schedule.dates.length; i++) {
                sum += paymentOn(i, left) * weight / BILLION;
                left -= sunkOn(i, left);
                weight = weight * period / (period + rate);
            }
            return sum;
        }

        // The worth never grows with the rate, so the rate is built from its highest bit on.
        private int greatestRate(int date, int left, long asked, int most) {
            int found = -1;
            for (int bit = 4096; bit > 0; bit /= 2) {
                if (found + bit <= most && worthAt(date, left, found + bit) >= asked) {
                    found += bit;
                }
            }
            return found;
        }

        int yieldAt(int today, int price) {
            return isGone() ? -1 : greatestRate(today, factor, fullPrice(today, price), MOST_YIELD);
        }

        private boolean isCallDate(int index) {
            return callPrice > 0 && index >= 0 && index < schedule.dates.length - 1
                    && schedule.dates[index] >= callFrom;
        }

        private long callPayment(int left) {
            return faceOf(left) * callPrice / ALL;
        }

        int firstCall() {
            for (int i = next; i < schedule.dates.length; i++) {
                if (isCallDate(i)) {
                    return i;
                }
            }
            return -1;
        }

        int rateOfCall() {
            int index = isGone() ? -1 : firstCall();
            int left = factorBehind(index);
            if (index < 0 || index >= schedule.dates.length || left == 0) {
                return -1;
            }
            return greatestRate(schedule.dates[index], left, callPayment(left) + 1, MOST_RATE);
        }

        void lookUpTo(int today, int rate, Ledger paid) {
            for (int i = next; i >= 0 && i < schedule.dates.length; i++) {
                if (isGone() || schedule.dates[i] > today) {
                    return;
                }
                lookAt(i, rate, paid);
            }
        }

        private void lookAt(int index, int rate, Ledger paid) {
            paid.coupons += pieces * schedule.couponFor(index, face());
            next = index + 1;
            if (isEnd(index)) {
                paid.ends += pieces * face();
                leave(ENDED);
                return;
            }
            int sunk = sunkOn(index, factor);
            paid.sinking += pieces * faceOf(sunk);
            factor -= sunk;
            if (factor == 0) {
                leave(ENDED);
            } else if (isCallDate(index) && worthAt(schedule.dates[index], factor, rate) > callPayment(factor)) {
                paid.calls += pieces * callPayment(factor);
                leave(CALLED);
            }
        }

        private void leave(int how) {
            state = how;
            pieces = 0;
        }

        long paymentsIn(int year, int today) {
            long sum = 0;
            int left = factor;
            for (int i = schedule.firstBehind(today); i < schedule.dates.length; i++) {
                if (Dates.yearOf(schedule.dates[i]) == year) {
                    sum += paymentOn(i, left);
                }
                left -= sunkOn(i, left);
            }
            return sum;
        }

        int tell(int what) {
            switch (what) {
                case 0:
                    return schedule.issue;
                case 1:
                    return schedule.end;
                case 2:
                    return schedule.rate;
                case 3:
                    return schedule.perYear;
                case 4:
                    return schedule.way;
                case 5:
                    return factor;
                case 6:
                    return (int) face();
                case 7:
                    return schedule.dates.length;
                case 8:
                    return isGone() ? -1 : next;
                case 9:
                    return state;
                default:
                    return pieces;
            }
        }

        long addTo(long sum, int today) {
            long d = sum;
            for (int what = 0; what <= 10; what++) {
                d = d * 31 + tell(what);
            }
            d = d * 31 + accruedOn(today);
            for (int i = 0; i < schedule.dates.length; i++) {
                d = d * 31 + schedule.dates[i];
                d = d * 31 + schedule.couponFor(i, FACE);
            }
            return d;
        }
    }
}
