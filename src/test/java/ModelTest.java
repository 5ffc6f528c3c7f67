import java.util.Random;

/** Runs of 512 calls, drawn from fixed seeds, each of whose answers is compared with the model's. */
public final class ModelTest {
    private static final int RUNS = 120;
    private static final int[] PERIODS = {1, 2, 4, 12};

    private final Random random;
    private final int seed;
    private final boolean slow;
    private final BondDesk desk = new BondDesk();
    private final Model model = new Model();

    private ModelTest(int seed) {
        this.seed = seed;
        slow = seed % 2 == 0;
        random = new Random(seed);
    }

    public static void main(String[] args) {
        for (int seed = 0; seed < RUNS && Check.wrong() < 20; seed++) {
            new ModelTest(seed).run();
        }
        Check.end();
    }

    private void run() {
        for (int call = 0; call < 256 && Check.wrong() < 20; call++) {
            step(call < 8 ? 1 + random.nextInt(3) : random.nextInt(26));
            compare("digest()", desk::digest, model::digest);
        }
    }

    private void compare(String what, Check.Call got, Check.Call due) {
        Check.same("seed " + seed + ": " + what, Check.told(due), Check.told(got));
    }

    private boolean rarely() {
        return random.nextInt(25) == 0;
    }

    private int in(int low, int high) {
        if (rarely()) {
            return random.nextBoolean() ? low - 1 : high + 1;
        }
        if (random.nextInt(8) == 0) {
            return random.nextBoolean() ? low : high;
        }
        return low + random.nextInt(high - low + 1);
    }

    private int anyBond() {
        int told = (int) model.count(3);
        return told == 0 || rarely() ? random.nextInt(13) - 1 : random.nextInt(told);
    }

    private int anyDate() {
        if (rarely()) {
            return 10000 * (2015 + random.nextInt(53)) + 100 * random.nextInt(14) + random.nextInt(33);
        }
        int today = (int) model.count(0);
        if (random.nextInt(3) == 0) {
            return 10000 * (2016 + random.nextInt(51)) + 100 * (1 + random.nextInt(12)) + 1 + random.nextInt(28);
        }
        if (model.count(3) > 0 && random.nextBoolean()) {
            int bond = random.nextInt((int) model.count(3));
            int date = model.coupon(bond, random.nextInt(model.bond(bond, 7)), 0);
            return moved(date, random.nextInt(3) - 1);
        }
        return moved(today, random.nextInt(120) - 20);
    }

    private int moved(int date, int days) {
        int moved = date;
        try {
            moved = model.later(date, days);
        } catch (IllegalArgumentException e) {
            return date;
        }
        return moved;
    }

    private void addBond() {
        int f = rarely() ? 3 : PERIODS[random.nextInt(4)];
        int year = (int) model.count(0) / 10000;
        int issue = anyDate();
        int end = anyDate();
        if (random.nextInt(10) > 0) {
            int most = Math.max(2066 - year, 1);
            end = 10000 * (year + random.nextInt(Math.min(random.nextBoolean() ? 3 : 30, most) + 1))
                    + 100 * (1 + random.nextInt(12));
            end += random.nextInt(3) > 0 ? 1 + random.nextInt(28) : 28 + random.nextInt(4);
            issue = 10000 * Math.max(2016, year - random.nextInt(120 / f > 10 ? 10 : 5)) + 100 * (1 + random.nextInt(12));
            issue += random.nextInt(3) > 0 ? end % 100 : 1 + random.nextInt(31);
        }
        int from = issue;
        int to = end;
        int rate = in(0, 2000);
        int way = in(0, 3);
        String what = "addBond(" + from + ", " + to + ", " + rate + ", " + f + ", " + way + ")";
        compare(what, () -> desk.addBond(from, to, rate, f, way), () -> model.addBond(from, to, rate, f, way));
    }

    private void step(int kind) {
        if (kind < 4) {
            tell(kind);
        } else if (kind < 15) {
            askBond(kind);
        } else {
            trade(kind);
        }
    }

    private void tell(int kind) {
        int date = anyDate();
        int days = in(-1000, 1000);
        switch (kind) {
            case 0 -> compare("later(" + date + ", " + days + ")",
                    () -> desk.later(date, days), () -> model.later(date, days));
            case 1 -> compare("addHoliday(" + date + ")", () -> desk.addHoliday(date), () -> model.addHoliday(date));
            case 2 -> addBond();
            default -> {
                compare("weekday(" + date + ")", () -> desk.weekday(date), () -> model.weekday(date));
                compare("working(" + date + ")", () -> desk.working(date), () -> model.working(date));
            }
        }
    }

    private void askBond(int kind) {
        int bond = anyBond();
        int date = anyDate();
        int part = random.nextInt(6) == 0 ? in(0, 5000) : random.nextInt(3) == 0 ? 0 : in(0, 400);
        int price = random.nextInt(5) == 0 ? in(8000, 15000) : random.nextBoolean() ? 0 : in(9800, 12000);
        int trade = random.nextInt(5) == 0 ? in(1, 30000) : in(8000, 12000);
        int rate = random.nextInt(4) == 0 ? in(0, 5000) : in(0, 1500);
        int what = in(0, 10);
        int index = in(0, random.nextInt(5) == 0 ? 119 : 8);
        String one = "(" + bond + ", ";
        switch (kind) {
            case 4, 5 -> compare("setSink" + one + date + ", " + part + ")",
                    () -> desk.setSink(bond, date, part), () -> model.setSink(bond, date, part));
            case 6, 7 -> compare("setCall" + one + date + ", " + price + ")",
                    () -> desk.setCall(bond, date, price), () -> model.setCall(bond, date, price));
            case 8 -> compare("bond" + one + what + ")", () -> desk.bond(bond, what), () -> model.bond(bond, what));
            case 9 -> compare("coupon" + one + index + ", " + what % 5 + ")",
                    () -> desk.coupon(bond, index, what % 5), () -> model.coupon(bond, index, what % 5));
            case 10 -> compare("accrued" + one + date + ")",
                    () -> desk.accrued(bond, date), () -> model.accrued(bond, date));
            case 11 -> compare("worth" + one + rate + ")", () -> desk.worth(bond, rate), () -> model.worth(bond, rate));
            case 12 -> compare("yields" + one + trade + ")",
                    () -> desk.yields(bond, trade), () -> model.yields(bond, trade));
            case 13 -> compare("moves" + one + rate + ")", () -> desk.moves(bond, rate), () -> model.moves(bond, rate));
            default -> compare("callsAt(" + bond + ")", () -> desk.callsAt(bond), () -> model.callsAt(bond));
        }
    }

    private void trade(int kind) {
        int bond = anyBond();
        int pieces = random.nextInt(3) == 0 ? in(1, 1000) : in(1, 150);
        int price = random.nextInt(5) == 0 ? in(1, 30000) : in(8000, 12000);
        int rate = in(0, 2000);
        int days = random.nextInt(slow ? 40 : 5) == 0 ? in(1, 400) : in(1, slow ? 5 : 30);
        int what = in(0, 11);
        int year = random.nextInt(4) == 0 ? in(2016, 2066) : (int) model.count(0) / 10000 + random.nextInt(4);
        int to = year + random.nextInt(3) - (rarely() ? 1 : 0);
        String sold = "(" + bond + ", " + pieces + ", " + price + ")";
        switch (kind) {
            case 15, 16 -> compare("buy" + sold, () -> desk.buy(bond, pieces, price), () -> model.buy(bond, pieces, price));
            case 17 -> compare("sell" + sold, () -> desk.sell(bond, pieces, price), () -> model.sell(bond, pieces, price));
            case 18, 19, 20 -> compare("pass(" + days + ")", () -> desk.pass(days), () -> model.pass(days));
            case 21 -> compare("setRate(" + rate + ")", () -> desk.setRate(rate), () -> model.setRate(rate));
            case 22 -> compare("count(" + what + ")", () -> desk.count(what), () -> model.count(what));
            case 23 -> compare("paysIn(" + year + ")", () -> desk.paysIn(year), () -> model.paysIn(year));
            case 24 -> compare("ladder(" + year + ", " + to + ")",
                    () -> desk.ladder(year, to), () -> model.ladder(year, to));
            default -> {
                compare("best(" + price + ")", () -> desk.best(price), () -> model.best(price));
                compare("years()", desk::years, model::years);
            }
        }
    }
}
