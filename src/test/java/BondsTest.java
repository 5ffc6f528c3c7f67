/** Promises 6 to 12: addBond, setSink, setCall, setRate, bond, coupon, accrued. */
public final class BondsTest {
    public static void main(String[] args) {
        addBond();
        addBondEdges();
        addBondBad();
        tenBonds();
        monthEnds();
        setSink();
        setCall();
        setRate();
        badSettings();
        goneBonds();
        bond();
        bondOnEvents();
        coupon();
        firstCoupon();
        accrued();
        accruedInFifths();
        accruedOn31();
        accruedFirstPeriod();
        accruedByFace();
        Check.end();
    }

    private static void addBond() {
        BondDesk desk = new BondDesk();
        Check.same("the first bond", 0, () -> desk.addBond(20250115, 20270115, 1000, 2, 0));
        Check.same("the second bond", 1, () -> desk.addBond(20250115, 20270115, 1000, 2, 0));
        Check.same("count(3)", 2L, () -> desk.count(3));
        Check.same("no sinking fund", 10000, () -> desk.bond(0, 5));
        Check.same("callsAt without calls", -1, () -> desk.callsAt(0));
        dates(desk, 0, 20250715, 20260115, 20260715, 20270115);
    }

    private static void dates(BondDesk desk, int bond, int... due) {
        Check.same("bond(" + bond + ", 7)", due.length, () -> desk.bond(bond, 7));
        for (int i = 0; i < due.length; i++) {
            int index = i;
            Check.same("coupon(" + bond + ", " + i + ", 0)", due[i], () -> desk.coupon(bond, index, 0));
        }
    }

    private static void told(int due, int issue, int end, int rate, int f, int way) {
        BondDesk desk = new BondDesk();
        int bond = desk.addBond(issue, end, rate, f, way);
        Check.same("coupon dates from " + issue + " to " + end, due, () -> desk.bond(bond, 7));
    }

    private static void addBondEdges() {
        told(10, 20160102, 20260102, 0, 1, 0);
        told(41, 20260101, 20661101, 2000, 1, 3);
        told(1, 20260101, 20260102, 0, 12, 0);
        told(120, 20200301, 20300301, 1, 12, 2);
        told(11, 20160101, 20270101, 1, 1, 1);
        told(11, 20160102, 20270101, 1, 1, 1);
        told(100, 20160101, 20660101, 100, 2, 0);
        told(118, 20360501, 20651101, 100, 4, 0);
    }

    private static void bad(BondDesk desk, int issue, int end, int rate, int f, int way) {
        String what = "addBond(" + issue + ", " + end + ", " + rate + ", " + f + ", " + way + ")";
        Check.badArgument(desk, what, () -> desk.addBond(issue, end, rate, f, way));
    }

    private static void addBondBad() {
        BondDesk desk = new BondDesk();
        allBad(desk);
        Check.same("nothing was told", 0L, () -> desk.count(3));
        desk.pass(1);
        bad(desk, 20250101, 20260102, 1, 1, 0);
        Check.same("later than the date of the desk", 0, () -> desk.addBond(20250103, 20260103, 1, 1, 0));
    }

    private static void allBad(BondDesk desk) {
        bad(desk, 20260230, 20300101, 1, 1, 0);
        bad(desk, 20250101, 20300230, 1, 1, 0);
        bad(desk, 20151231, 20300101, 1, 1, 0);
        bad(desk, 20250101, 20661102, 1, 1, 0);
        bad(desk, 20250101, 20670101, 1, 1, 0);
        bad(desk, 20270101, 20270101, 1, 1, 0);
        bad(desk, 20270102, 20270101, 1, 1, 0);
        bad(desk, 20250101, 20260101, 1, 1, 0);
        bad(desk, 20250101, 20251231, 1, 1, 0);
        bad(desk, 20250101, 20300101, -1, 1, 0);
        bad(desk, 20250101, 20300101, 2001, 1, 0);
        for (int f : new int[] {Integer.MIN_VALUE, -1, 0, 3, 5, 6, 8, 13, 24}) {
            bad(desk, 20250101, 20300101, 1, f, 0);
        }
        bad(desk, 20250101, 20300101, 1, 1, -1);
        bad(desk, 20250101, 20300101, 1, 1, 4);
        bad(desk, 20200229, 20300301, 1, 12, 0);
        bad(desk, 20200201, 20300301, 1, 12, 0);
        bad(desk, 20360101, 20660401, 1, 4, 0);
        bad(desk, 20160101, 20660101, 1, 12, 0);
        bad(desk, 20160101, 20260102, 1, 1, 0);
        bad(desk, 20160201, 20300301, 1, 1, 0);
        bad(desk, 20160101, 20300301, 1, 12, 0);
        bad(desk, 20160130, 20270131, 1, 12, 0);
    }

    private static void tenBonds() {
        BondDesk desk = new BondDesk();
        for (int i = 0; i < 10; i++) {
            Check.same("addBond", i, () -> desk.addBond(20250101, 20300101, 1, 1, 0));
        }
        Check.badState(desk, "the 11th bond", () -> desk.addBond(20250101, 20300101, 1, 1, 0));
        allBad(desk);
        Check.same("count(3)", 10L, () -> desk.count(3));
    }

    private static void monthEnds() {
        BondDesk desk = new BondDesk();
        desk.addBond(20251115, 20260430, 100, 12, 0);
        dates(desk, 0, 20251130, 20251231, 20260131, 20260228, 20260331, 20260430);
        desk.addBond(20251115, 20260330, 100, 12, 0);
        dates(desk, 1, 20251130, 20251230, 20260130, 20260228, 20260330);
        desk.addBond(20250301, 20280229, 100, 1, 0);
        dates(desk, 2, 20260228, 20270228, 20280229);
        desk.addBond(20270601, 20290228, 100, 1, 0);
        dates(desk, 3, 20280229, 20290228);
        desk.addBond(20270601, 20280228, 100, 4, 0);
        dates(desk, 4, 20270828, 20271128, 20280228);
        desk.addBond(20250930, 20270331, 100, 2, 3);
        dates(desk, 5, 20260331, 20260930, 20270331);
        desk.addBond(20251229, 20280530, 100, 1, 3);
        dates(desk, 6, 20260530, 20270530, 20280530);
        desk.addBond(20251130, 20270829, 100, 4, 3);
        dates(desk, 7, 20260228, 20260529, 20260829, 20261129, 20270228, 20270529, 20270829);
    }

    private static void sink(BondDesk desk, int from, int part, int due) {
        Check.same("setSink(0, " + from + ", " + part + ")", due, () -> desk.setSink(0, from, part));
    }

    private static void setSink() {
        BondDesk desk = new BondDesk();
        desk.addBond(20250115, 20280115, 1000, 2, 0);
        sink(desk, 20260101, 0, 10000);
        sink(desk, 20160101, 1000, 6000);
        sink(desk, 20260115, 1000, 6000);
        sink(desk, 20260116, 1000, 7000);
        sink(desk, 20270715, 1000, 9000);
        sink(desk, 20270716, 1000, 10000);
        sink(desk, 20260101, 2500, 0);
        sink(desk, 20260101, 2499, 4);
        sink(desk, 20260101, 5000, 0);
        sink(desk, 20260101, 2000, 2000);
        desk.pass(15);
        Check.same("the factor behind one", 8000, () -> desk.bond(0, 5));
        sink(desk, 20160101, 1000, 5000);
        sink(desk, 20160101, 0, 8000);
        sink(desk, 20160101, 5000, 0);
        Check.same("looked at on the working day", 8000, () -> desk.bond(0, 5));
        desk.pass(180);
        Check.same("the factor behind two", 3000, () -> desk.bond(0, 5));
        Check.same("the face behind two", 30000, () -> desk.bond(0, 6));
        dueOnSunday();
    }

    // A coupon date on a Saturday is not looked at on the Sunday, so what is set then works on it.
    private static void dueOnSunday() {
        BondDesk desk = new BondDesk();
        desk.addBond(20250110, 20270110, 1000, 2, 0);
        desk.pass(10);
        sink(desk, 20160101, 1000, 8000);
        sink(desk, 20260111, 1000, 9000);
        Check.same("setCall on a Sunday", 1, () -> desk.setCall(0, 20260110, 8000));
        sink(desk, 20260110, 1000, 8000);
        desk.pass(1);
        Check.same("the factor on Monday", 9000, () -> desk.bond(0, 5));
        Check.same("called on Monday", 2, () -> desk.bond(0, 9));
    }

    private static void call(BondDesk desk, int from, int price, int due) {
        Check.same("setCall(0, " + from + ", " + price + ")", due, () -> desk.setCall(0, from, price));
    }

    private static void setCall() {
        BondDesk desk = new BondDesk();
        desk.addBond(20250115, 20280115, 1000, 2, 0);
        call(desk, 20160101, 10000, 1);
        call(desk, 20260115, 8000, 1);
        call(desk, 20260116, 15000, 2);
        call(desk, 20270715, 15000, 4);
        call(desk, 20270716, 15000, -1);
        call(desk, 20160101, 0, -1);
        desk.setSink(0, 20160101, 5000);
        call(desk, 20270715, 15000, 4);
        desk.setSink(0, 20160101, 0);
        desk.pass(15);
        call(desk, 20160101, 15000, 2);
        desk.pass(400);
        Check.same("not called at 15000", 0, () -> desk.bond(0, 9));
        desk.addBond(20260101, 20270301, 1000, 1, 0);
        Check.same("no call on the end alone", -1, () -> desk.setCall(1, 20270301, 8000));
    }

    private static void setRate() {
        BondDesk desk = new BondDesk();
        Check.same("setRate(0)", 300, () -> desk.setRate(0));
        Check.same("setRate(2000)", 0, () -> desk.setRate(2000));
        Check.same("setRate(2000)", 2000, () -> desk.setRate(2000));
        Check.badArgument(desk, "setRate(-1)", () -> desk.setRate(-1));
        Check.badArgument(desk, "setRate(2001)", () -> desk.setRate(2001));
        Check.same("count(2)", 2000L, () -> desk.count(2));
    }

    private static void badSettings() {
        BondDesk desk = new BondDesk();
        desk.addBond(20250115, 20280115, 1000, 2, 0);
        for (int bond : new int[] {-1, 1, 10, Integer.MAX_VALUE, Integer.MIN_VALUE}) {
            Check.badIndex(desk, "setSink of no bond", () -> desk.setSink(bond, 0, -1));
            Check.badIndex(desk, "setCall of no bond", () -> desk.setCall(bond, 0, -1));
            Check.badIndex(desk, "bond of no bond", () -> desk.bond(bond, 0));
            Check.badIndex(desk, "coupon of no bond", () -> desk.coupon(bond, 0, 0));
            Check.badIndex(desk, "accrued of no bond", () -> desk.accrued(bond, 0));
        }
        Check.badArgument(desk, "setSink from no date", () -> desk.setSink(0, 20260230, 1));
        Check.badArgument(desk, "no setSink from no date", () -> desk.setSink(0, 0, 0));
        Check.badArgument(desk, "setSink of -1", () -> desk.setSink(0, 20260101, -1));
        Check.badArgument(desk, "setSink of 5001", () -> desk.setSink(0, 20260101, 5001));
        for (int price : new int[] {-1, 1, 7999, 15001, Integer.MAX_VALUE, Integer.MIN_VALUE}) {
            Check.badArgument(desk, "setCall at " + price, () -> desk.setCall(0, 20260101, price));
        }
        Check.badArgument(desk, "setCall from no date", () -> desk.setCall(0, 20260230, 8000));
        desk.setCall(0, 20260101, 10000);
        desk.setSink(0, 20260101, 100);
        int rate = desk.callsAt(0);
        Check.badArgument(desk, "setCall at 1", () -> desk.setCall(0, 20270101, 1));
        Check.badArgument(desk, "setSink of 5001", () -> desk.setSink(0, 20270101, 5001));
        Check.same("what was set stands", rate, () -> desk.callsAt(0));
        desk.pass(15);
        Check.same("called as was set", 2, () -> desk.bond(0, 9));
        Check.same("sunk as was set", 9900, () -> desk.bond(0, 5));
    }

    private static void goneBonds() {
        BondDesk desk = new BondDesk();
        desk.addBond(20250115, 20260105, 1000, 2, 0);
        desk.pass(4);
        Check.same("it ended", 1, () -> desk.bond(0, 9));
        Check.badState(desk, "setSink of one that is gone", () -> desk.setSink(0, 20260101, 0));
        Check.badState(desk, "setCall of one that is gone", () -> desk.setCall(0, 20260101, 0));
        Check.badArgument(desk, "setSink of one that is gone", () -> desk.setSink(0, 20260101, 5001));
        Check.badArgument(desk, "setSink of one that is gone", () -> desk.setSink(0, 1, 1));
        Check.badArgument(desk, "setCall of one that is gone", () -> desk.setCall(0, 20260101, 1));
        Check.same("its accrued", 0, () -> desk.accrued(0, 20251201));
        Check.same("its face", 100000, () -> desk.bond(0, 6));
        Check.same("its coupon", 5000, () -> desk.coupon(0, 1, 3));
    }

    private static void bond(BondDesk desk, int bond, int... due) {
        for (int i = 0; i < due.length; i++) {
            int what = i;
            Check.same("bond(" + bond + ", " + i + ")", due[i], () -> desk.bond(bond, what));
        }
    }

    private static void bond() {
        BondDesk desk = new BondDesk();
        desk.addBond(20250120, 20270115, 750, 4, 3);
        desk.addBond(20250115, 20260715, 0, 12, 1);
        bond(desk, 0, 20250120, 20270115, 750, 4, 3, 10000, 100000, 8, 3, 0, 0);
        bond(desk, 1, 20250115, 20260715, 0, 12, 1, 10000, 100000, 18, 11, 0, 0);
        Check.badIndex(desk, "bond(0, -1)", () -> desk.bond(0, -1));
        Check.badIndex(desk, "bond(0, 11)", () -> desk.bond(0, 11));
        Check.badIndex(desk, "bond(2, 0)", () -> desk.bond(2, 0));
    }

    private static void bondOnEvents() {
        BondDesk desk = new BondDesk();
        desk.addBond(20250115, 20270115, 1000, 2, 0);
        desk.addBond(20250115, 20270115, 1000, 2, 0);
        desk.addBond(20250115, 20260715, 1000, 2, 0);
        desk.setSink(0, 20260101, 5000);
        desk.setCall(1, 20260701, 10000);
        for (int i = 0; i < 3; i++) {
            desk.buy(i, 7, 10000);
        }
        desk.pass(14);
        bond(desk, 0, 20250115, 20270115, 1000, 2, 0, 5000, 50000, 4, 2, 0, 7);
        bond(desk, 1, 20250115, 20270115, 1000, 2, 0, 10000, 100000, 4, 2, 0, 7);
        desk.pass(180);
        bond(desk, 2, 20250115, 20260715, 1000, 2, 0, 10000, 100000, 3, 2, 0, 7);
        desk.pass(1);
        bond(desk, 0, 20250115, 20270115, 1000, 2, 0, 0, 0, 4, -1, 1, 0);
        bond(desk, 1, 20250115, 20270115, 1000, 2, 0, 10000, 100000, 4, -1, 2, 0);
        bond(desk, 2, 20250115, 20260715, 1000, 2, 0, 10000, 100000, 3, -1, 1, 0);
    }

    private static void coupon(BondDesk desk, int bond, int index, int... due) {
        for (int i = 0; i < due.length; i++) {
            int what = i;
            Check.same("coupon(" + bond + ", " + index + ", " + i + ")", due[i], () -> desk.coupon(bond, index, what));
        }
    }

    private static void coupon() {
        BondDesk desk = new BondDesk();
        desk.addBond(20250110, 20270110, 333, 2, 0);
        coupon(desk, 0, 0, 20250710, 20250710, 20250110, 1665);
        coupon(desk, 0, 1, 20260110, 20260112, 20250710, 1665);
        coupon(desk, 0, 3, 20270110, 20270111, 20260710, 1665);
        desk.addHoliday(20260112);
        desk.addHoliday(20250710);
        coupon(desk, 0, 0, 20250710, 20250711, 20250110, 1665);
        coupon(desk, 0, 1, 20260110, 20260113, 20250710, 1665);
        desk.addBond(20250110, 20270110, 333, 12, 0);
        coupon(desk, 1, 23, 20270110, 20270111, 20261210, 277);
        for (int way = 1; way <= 3; way++) {
            int bond = desk.addBond(20250110, 20270110, 333, 2, way);
            coupon(desk, bond, 0, 20250710, 20250711, 20250110, 1665);
        }
        Check.badIndex(desk, "coupon(0, -1, 0)", () -> desk.coupon(0, -1, 0));
        Check.badIndex(desk, "coupon(0, 4, 0)", () -> desk.coupon(0, 4, 0));
        Check.badIndex(desk, "coupon(0, 0, -1)", () -> desk.coupon(0, 0, -1));
        Check.badIndex(desk, "coupon(0, 0, 4)", () -> desk.coupon(0, 0, 4));
        desk.setSink(0, 20260101, 5000);
        desk.pass(30);
        Check.same("half of it went", 5000, () -> desk.bond(0, 5));
        coupon(desk, 0, 2, 20260710, 20260710, 20260110, 1665);
    }

    // Issued on March 1 in a period from January 15 to July 15, 2025.
    private static void firstCoupon() {
        int[] due = {3722, 3777, 3726, 3756};
        for (int way = 0; way < 4; way++) {
            BondDesk desk = new BondDesk();
            desk.addBond(20250301, 20270115, 1000, 2, way);
            coupon(desk, 0, 0, 20250715, 20250715, 20250301, due[way]);
            coupon(desk, 0, 1, 20260115, 20260115, 20250715, 5000);
            coupon(desk, 0, 3, 20270115, 20270115, 20260715, 5000);
        }
        BondDesk desk = new BondDesk();
        desk.addBond(20251001, 20270228, 2000, 2, 3);
        coupon(desk, 0, 0, 20260228, 20260302, 20251001, 8287);
    }

    private static void accrued(BondDesk desk, int bond, int date, int due) {
        Check.same("accrued(" + bond + ", " + date + ")", due, () -> desk.accrued(bond, date));
    }

    private static void accrued() {
        int[] inMarch = {1527, 1500, 1479, 1491};
        int[] atLast = {4972, 5083, 5013, 4972};
        for (int way = 0; way < 4; way++) {
            BondDesk desk = new BondDesk();
            desk.addBond(20250115, 20270115, 1000, 2, way);
            accrued(desk, 0, 20250114, 0);
            accrued(desk, 0, 20250115, 0);
            accrued(desk, 0, 20250116, new int[] {27, 27, 27, 27}[way]);
            accrued(desk, 0, 20260115, 0);
            accrued(desk, 0, 20260310, inMarch[way]);
            accrued(desk, 0, 20270114, atLast[way]);
            accrued(desk, 0, 20270115, 0);
            accrued(desk, 0, 20270116, 0);
            accrued(desk, 0, 20661231, 0);
            Check.badArgument(desk, "accrued(0, 20260230)", () -> desk.accrued(0, 20260230));
            Check.badArgument(desk, "accrued(0, 20670101)", () -> desk.accrued(0, 20670101));
            Check.badIndex(desk, "accrued(1, 20260230)", () -> desk.accrued(1, 20260230));
        }
    }

    // 73 days are a fifth of 365, 72 days one of 360.
    private static void accruedInFifths() {
        BondDesk desk = new BondDesk();
        desk.addBond(20250101, 20270101, 2000, 1, 1);
        desk.addBond(20250101, 20270101, 2000, 1, 2);
        accrued(desk, 0, 20260314, 4000);
        accrued(desk, 1, 20260315, 4000);
        accrued(desk, 1, 20260314, 3945);
    }

    private static void accruedOn31() {
        BondDesk desk = new BondDesk();
        desk.addBond(20250115, 20270115, 1000, 2, 0);
        accrued(desk, 0, 20260331, 2111);
        desk.addBond(20250131, 20270131, 1000, 2, 0);
        accrued(desk, 1, 20260331, 1666);
        accrued(desk, 1, 20260330, 1666);
        accrued(desk, 1, 20260228, 777);
        accrued(desk, 1, 20260301, 861);
        desk.addBond(20250130, 20270130, 1000, 2, 0);
        accrued(desk, 2, 20260131, 0);
        accrued(desk, 2, 20260331, 1666);
        desk.addBond(20250228, 20270228, 1000, 2, 0);
        accrued(desk, 3, 20260331, 916);
    }

    // The whole regular period from January 15 to July 15, 2025, has 181 days.
    private static void accruedFirstPeriod() {
        BondDesk desk = new BondDesk();
        desk.addBond(20250301, 20270115, 1000, 2, 3);
        accrued(desk, 0, 20250228, 0);
        accrued(desk, 0, 20250301, 0);
        accrued(desk, 0, 20250401, 856);
        accrued(desk, 0, 20250714, 3729);
        accrued(desk, 0, 20250715, 0);
        desk.addBond(20250101, 20260430, 2000, 1, 3);
        accrued(desk, 1, 20250430, 0);
        accrued(desk, 1, 20250429, 6465);
        desk.addBond(20250301, 20260228, 2000, 2, 3);
        accrued(desk, 2, 20250402, 1739);
    }

    private static void accruedByFace() {
        BondDesk desk = new BondDesk();
        desk.addBond(20250115, 20270115, 1000, 2, 1);
        desk.setSink(0, 20260101, 2500);
        desk.pass(14);
        accrued(desk, 0, 20260310, 1125);
        accrued(desk, 0, 20250116, 20);
    }
}
