import java.time.DayOfWeek;
import java.time.LocalDate;
import java.time.YearMonth;
import java.time.temporal.ChronoUnit;
import java.util.ArrayList;
import java.util.LinkedHashSet;
import java.util.List;
import java.util.Set;

/** The document once more, with the Java library and by the plainest search, to compare with. */
final class Model {
    private final Set<LocalDate> holidays = new LinkedHashSet<>();
    private final List<Paper> papers = new ArrayList<>();
    private LocalDate now = LocalDate.of(2026, 1, 1);
    private long cash = 200000000;
    private int refinancing = 300;
    private final long[] paid = new long[4];

    private record Payment(LocalDate date, long cents) {
    }

    private static final class Paper {
        LocalDate issue;
        LocalDate end;
        LocalDate regular;
        long rate;
        int f;
        int way;
        final List<LocalDate> dates = new ArrayList<>();
        final Set<LocalDate> looked = new LinkedHashSet<>();
        int factor = 10000;
        int state;
        int pieces;
        LocalDate sinkFrom;
        int sinkPart;
        LocalDate callFrom;
        int callPrice;

        int part(LocalDate date, int left) {
            if (sinkPart == 0 || date.equals(end) || date.isBefore(sinkFrom)) {
                return 0;
            }
            return left < sinkPart ? left : sinkPart;
        }

        boolean callable(LocalDate date) {
            return callPrice != 0 && !date.equals(end) && !date.isBefore(callFrom);
        }

        LocalDate nextUnlooked() {
            for (LocalDate date : dates) {
                if (!looked.contains(date)) {
                    return date;
                }
            }
            return null;
        }

        LocalDate firstCallable() {
            for (LocalDate date : dates) {
                if (!looked.contains(date) && callable(date)) {
                    return date;
                }
            }
            return null;
        }

        int leftBehind(LocalDate last) {
            int left = factor;
            for (LocalDate date : dates) {
                if (!looked.contains(date) && !date.isAfter(last)) {
                    left -= part(date, left);
                }
            }
            return left;
        }

        long interest(long face, LocalDate a, LocalDate b, LocalDate p, LocalDate q) {
            long days = ChronoUnit.DAYS.between(a, b);
            if (way == 0) {
                int one = a.getDayOfMonth() == 31 ? 30 : a.getDayOfMonth();
                int two = b.getDayOfMonth() == 31 && one == 30 ? 30 : b.getDayOfMonth();
                days = 360L * (b.getYear() - a.getYear()) + 30L * (b.getMonthValue() - a.getMonthValue()) + two - one;
                return face * rate * days / 3600000;
            }
            if (way == 1) {
                return face * rate * days / 3600000;
            }
            if (way == 2) {
                return face * rate * days / 3650000;
            }
            return face * rate * days / (f * ChronoUnit.DAYS.between(p, q) * 10000);
        }

        long interestOn(LocalDate date, long face) {
            if (date.equals(dates.get(0)) && regular.isBefore(issue)) {
                return interest(face, issue, date, regular, date);
            }
            return face * rate / (10000L * f);
        }

        long accruedOn(LocalDate date) {
            if (state != 0 || date.isBefore(issue) || !date.isBefore(end)) {
                return 0;
            }
            LocalDate begin = issue;
            LocalDate p = regular;
            for (LocalDate q : dates) {
                if (q.isAfter(date)) {
                    return interest(10L * factor, begin, date, p, q);
                }
                begin = q;
                p = q;
            }
            throw new AssertionError("no period");
        }

        List<Payment> payments(LocalDate behind, int from) {
            List<Payment> all = new ArrayList<>();
            int left = from;
            for (LocalDate date : dates) {
                if (date.isAfter(behind)) {
                    long cents = interestOn(date, 10L * left);
                    int part = date.equals(end) ? left : part(date, left);
                    all.add(new Payment(date, cents + 10L * part));
                    left -= part;
                }
            }
            return all;
        }

        long value(LocalDate date, int left, long y) {
            return state != 0 ? 0 : value(payments(date, left), date, y);
        }

        long value(List<Payment> payments, LocalDate date, long y) {
            long w = -1;
            long sum = 0;
            for (Payment payment : payments) {
                if (w < 0) {
                    long n = ChronoUnit.DAYS.between(date, payment.date());
                    w = 1000000000L * 3650000L / (3650000L + y * n);
                } else {
                    w = w * (10000L * f) / (10000L * f + y);
                }
                sum += payment.cents() * w / 1000000000L;
            }
            return sum;
        }

        int yield(LocalDate now, int price) {
            if (state != 0) {
                return -1;
            }
            List<Payment> payments = payments(now, factor);
            for (int y = 5000; y >= 0; y--) {
                if (value(payments, now, y) >= full(now, price)) {
                    return y;
                }
            }
            return -1;
        }

        long full(LocalDate now, int price) {
            return 10L * factor * price / 10000 + accruedOn(now);
        }
    }

    private static IllegalArgumentException argument() {
        return new IllegalArgumentException();
    }

    private static IllegalStateException state() {
        return new IllegalStateException();
    }

    private static IndexOutOfBoundsException index() {
        return new IndexOutOfBoundsException();
    }

    private static void argument(boolean fine) {
        if (!fine) {
            throw argument();
        }
    }

    private static void in(int x, int low, int high) {
        argument(x >= low && x <= high);
    }

    private static LocalDate date(int told) {
        in(told, 20160101, 20661231);
        try {
            return LocalDate.of(told / 10000, told / 100 % 100, told % 100);
        } catch (java.time.DateTimeException e) {
            throw argument();
        }
    }

    private static int told(LocalDate date) {
        return 10000 * date.getYear() + 100 * date.getMonthValue() + date.getDayOfMonth();
    }

    private Paper paper(int bond) {
        if (bond < 0 || bond >= papers.size()) {
            throw index();
        }
        return papers.get(bond);
    }

    private boolean open(LocalDate date) {
        return date.getDayOfWeek() != DayOfWeek.SATURDAY && date.getDayOfWeek() != DayOfWeek.SUNDAY
                && !holidays.contains(date);
    }

    private LocalDate nextOpen(LocalDate date) {
        return open(date) ? date : nextOpen(date.plusDays(1));
    }

    int later(int date, int days) {
        LocalDate from = date(date);
        in(days, -1000, 1000);
        LocalDate reached = from.plusDays(days);
        in(told(reached), 20160101, 20661231);
        return told(reached);
    }

    int weekday(int date) {
        return date(date).getDayOfWeek().getValue() - 1;
    }

    int addHoliday(int date) {
        LocalDate day = date(date);
        if (!holidays.contains(day) && holidays.size() == 30) {
            throw state();
        }
        holidays.add(day);
        return holidays.size();
    }

    int working(int date) {
        LocalDate day = date(date);
        argument(date <= 20661101);
        return told(nextOpen(day));
    }

    int addBond(int issue, int end, int rate, int f, int way) {
        Paper paper = new Paper();
        paper.issue = date(issue);
        paper.end = date(end);
        argument(end <= 20661101 && end > issue && end > told(now));
        in(rate, 0, 2000);
        argument(f == 1 || f == 2 || f == 4 || f == 12);
        in(way, 0, 3);
        paper.rate = rate;
        paper.f = f;
        paper.way = way;
        boolean last = paper.end.getDayOfMonth() == paper.end.lengthOfMonth();
        for (int k = 0; paper.regular == null; k++) {
            LocalDate back = paper.end.minusMonths(12L / f * k);
            if (last) {
                back = YearMonth.from(back).atEndOfMonth();
            }
            if (back.isAfter(paper.issue)) {
                paper.dates.add(0, back);
                if (!back.isAfter(now)) {
                    paper.looked.add(back);
                }
            } else {
                paper.regular = back;
            }
        }
        argument(paper.dates.size() <= 120 && told(paper.regular) >= 20160101);
        if (papers.size() == 10) {
            throw state();
        }
        papers.add(paper);
        return papers.size() - 1;
    }

    int setSink(int bond, int from, int part) {
        Paper paper = paper(bond);
        LocalDate day = date(from);
        in(part, 0, 5000);
        if (paper.state != 0) {
            throw state();
        }
        paper.sinkFrom = day;
        paper.sinkPart = part;
        return paper.leftBehind(paper.end);
    }

    int setCall(int bond, int from, int price) {
        Paper paper = paper(bond);
        LocalDate day = date(from);
        argument(price == 0 || price >= 8000 && price <= 15000);
        if (paper.state != 0) {
            throw state();
        }
        paper.callFrom = day;
        paper.callPrice = price;
        return paper.dates.indexOf(paper.firstCallable());
    }

    int setRate(int rate) {
        in(rate, 0, 2000);
        int before = refinancing;
        refinancing = rate;
        return before;
    }

    int bond(int bond, int what) {
        Paper paper = paper(bond);
        return switch (what) {
            case 0 -> told(paper.issue);
            case 1 -> told(paper.end);
            case 2 -> (int) paper.rate;
            case 3 -> paper.f;
            case 4 -> paper.way;
            case 5 -> paper.factor;
            case 6 -> 100000 * paper.factor / 10000;
            case 7 -> paper.dates.size();
            case 8 -> paper.state != 0 ? -1 : paper.dates.indexOf(paper.nextUnlooked());
            case 9 -> paper.state;
            case 10 -> paper.pieces;
            default -> throw index();
        };
    }

    int coupon(int bond, int number, int what) {
        Paper paper = paper(bond);
        if (number < 0 || number >= paper.dates.size()) {
            throw index();
        }
        LocalDate date = paper.dates.get(number);
        return switch (what) {
            case 0 -> told(date);
            case 1 -> told(nextOpen(date));
            case 2 -> told(number == 0 ? paper.issue : paper.dates.get(number - 1));
            case 3 -> (int) paper.interestOn(date, 100000);
            default -> throw index();
        };
    }

    int accrued(int bond, int date) {
        Paper paper = paper(bond);
        return (int) paper.accruedOn(date(date));
    }

    int worth(int bond, int rate) {
        Paper paper = paper(bond);
        in(rate, 0, 5000);
        return (int) paper.value(now, paper.factor, rate);
    }

    int yields(int bond, int price) {
        Paper paper = paper(bond);
        in(price, 1, 30000);
        return paper.yield(now, price);
    }

    int moves(int bond, int rate) {
        Paper paper = paper(bond);
        in(rate, 0, 5000);
        return (int) (paper.value(now, paper.factor, rate) - paper.value(now, paper.factor, rate + 1));
    }

    int callsAt(int bond) {
        Paper paper = paper(bond);
        LocalDate date = paper.firstCallable();
        if (paper.state != 0 || date == null || paper.leftBehind(date) == 0) {
            return -1;
        }
        int left = paper.leftBehind(date);
        for (int y = 2000; y >= 0; y--) {
            if (paper.value(date, left, y) > 10L * left * paper.callPrice / 10000) {
                return y;
            }
        }
        return -1;
    }

    long buy(int bond, int pieces, int price) {
        Paper paper = paper(bond);
        in(pieces, 1, 1000);
        in(price, 1, 30000);
        long cost = pieces * paper.full(now, price);
        if (!open(now) || paper.state != 0 || now.isBefore(paper.issue) || paper.pieces + pieces > 1000
                || cost > cash) {
            throw state();
        }
        cash -= cost;
        paper.pieces += pieces;
        return cost;
    }

    long sell(int bond, int pieces, int price) {
        Paper paper = paper(bond);
        in(pieces, 1, 1000);
        in(price, 1, 30000);
        if (!open(now) || paper.pieces < pieces) {
            throw state();
        }
        long got = pieces * paper.full(now, price);
        cash += got;
        paper.pieces -= pieces;
        return got;
    }

    long pass(int days) {
        in(days, 1, 400);
        if (told(now.plusDays(days)) > 20661101) {
            throw state();
        }
        long got = 0;
        for (int i = 0; i < days; i++) {
            now = now.plusDays(1);
            if (open(now)) {
                for (Paper paper : papers) {
                    got += look(paper);
                }
            }
        }
        cash += got;
        return got;
    }

    private long look(Paper paper) {
        long got = 0;
        for (LocalDate date : paper.dates) {
            if (paper.state == 0 && !date.isAfter(now) && paper.looked.add(date)) {
                got += pay(0, paper.pieces * paper.interestOn(date, 10L * paper.factor));
                if (date.equals(paper.end)) {
                    got += pay(3, paper.pieces * 10L * paper.factor);
                    gone(paper, 1);
                    continue;
                }
                int part = paper.part(date, paper.factor);
                got += pay(1, paper.pieces * 10L * part);
                paper.factor -= part;
                long price = 10L * paper.factor * paper.callPrice / 10000;
                if (paper.factor == 0) {
                    gone(paper, 1);
                } else if (paper.callable(date) && paper.value(date, paper.factor, refinancing) > price) {
                    got += pay(2, paper.pieces * price);
                    gone(paper, 2);
                }
            }
        }
        return got;
    }

    private static void gone(Paper paper, int how) {
        paper.state = how;
        paper.pieces = 0;
    }

    private long pay(int kind, long cents) {
        paid[kind] += cents;
        return cents;
    }

    long count(int what) {
        switch (what) {
            case 0:
                return told(now);
            case 1:
                return cash;
            case 2:
                return refinancing;
            case 3:
                return papers.size();
            case 4:
                return papers.stream().filter(paper -> paper.state == 0).count();
            case 5:
                return holidays.size();
            case 6:
                return papers.stream().mapToLong(paper -> paper.pieces).sum();
            case 7, 8, 9, 10:
                return paid[what - 7];
            case 11:
                return papers.stream().mapToLong(p -> p.pieces * p.value(now, p.factor, refinancing)).sum();
            default:
                throw index();
        }
    }

    long paysIn(int year) {
        in(year, 2016, 2066);
        long sum = 0;
        for (Paper paper : papers) {
            for (Payment payment : paper.payments(now, paper.factor)) {
                if (payment.date().getYear() == year) {
                    sum += paper.pieces * payment.cents();
                }
            }
        }
        return sum;
    }

    int ladder(int from, int to) {
        in(from, 2016, 2066);
        in(to, from, 2066);
        long sum = 0;
        for (int y = from; y <= to; y++) {
            int year = y;
            var least = papers.stream()
                    .filter(p -> p.state == 0 && !p.issue.isAfter(now) && p.end.getYear() == year && p.end.isAfter(now))
                    .mapToLong(p -> p.value(now, p.factor, refinancing)).min();
            if (least.isEmpty()) {
                return -1;
            }
            sum += least.getAsLong();
        }
        return sum == 0 ? 0 : (int) Math.min(1000000, cash / sum);
    }

    int best(int price) {
        in(price, 1, 30000);
        int found = -1;
        int most = -1;
        for (Paper paper : papers) {
            int y = paper.state == 0 && !paper.issue.isAfter(now) ? paper.yield(now, price) : -1;
            if (y > most) {
                most = y;
                found = papers.indexOf(paper);
            }
        }
        return found;
    }

    double years() {
        long faces = papers.stream().mapToLong(p -> p.pieces * 10L * p.factor).sum();
        long all = papers.stream().mapToLong(p -> p.pieces * 10L * p.factor * ChronoUnit.DAYS.between(now, p.end)).sum();
        return faces == 0 ? 0.0 : (double) all / faces / 365;
    }

    long digest() {
        List<Long> numbers = new ArrayList<>();
        for (int what = 0; what < 12; what++) {
            numbers.add(count(what));
        }
        for (LocalDate holiday : holidays) {
            numbers.add((long) told(holiday));
        }
        for (int bond = 0; bond < papers.size(); bond++) {
            for (int what = 0; what < 11; what++) {
                numbers.add((long) bond(bond, what));
            }
            numbers.add((long) accrued(bond, told(now)));
            for (int i = 0; i < papers.get(bond).dates.size(); i++) {
                numbers.add((long) coupon(bond, i, 0));
                numbers.add((long) coupon(bond, i, 3));
            }
        }
        long d = 647;
        for (long number : numbers) {
            d = d * 31 + number;
        }
        return d;
    }
}
