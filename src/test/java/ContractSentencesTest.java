import java.math.BigInteger;

/** The sentences of the sections 4 to 8 (changes) that name a boundary, one after the other. */
public final class ContractSentencesTest {
    private static final int ALL = TimberSale.NONE;
    private static final Tester t = new Tester();

    public static void main(String[] args) {
        quarters();
        indexOfAQuarter();
        roundingOfTheIndex();
        leastRate();
        indexForARate();
        sixtyLoads();
        netVolumes();
        checkedOnce();
        loadsThatStay();
        tolerances();
        sumsOfChecks();
        worstChecks();
        shares();
        charges();
        interests();
        lastMonth();
        adjustments();
        closing();
        projections();
        greatestDebt();
        t.end();
    }

    /** One species with the volume 100, bidder 0 with the deposit 100; rate 10, so a tenth costs a cent. */
    private static TimberSale contract(String numbers, String species, int rate) {
        TimberSale sale = Tester.sale("sale 10 " + numbers + ";species " + species + ";plot 10;");
        sale.advertise();
        Tester.bid(sale, 0, 100, rate);
        sale.open();
        sale.award();
        return sale;
    }

    private static TimberSale plain() {
        return contract("35 0 0 0 0 0", "0 100", 10);
    }

    private static void endMonths(TimberSale sale, int last) {
        while (sale.month() < last) {
            sale.endMonth();
        }
    }

    private static void quarters() {
        t.topic("4: quarter q consists of the months 3 * q to 3 * q + 2");
        TimberSale sale = contract("35 0 100 0 0 0", "0 100", 1000);
        for (int quarter = 0; quarter < 12; quarter++) {
            sale.setIndex(quarter, 0, 200 + quarter);
        }
        for (int month = 0; month <= 35; month++) {
            sale.scale(0, 10, 0);
            int due = 1100 + month / 3;
            int number = month;
            t.due("charge of month " + month, due, () -> sale.charge(number));
            t.refused("no month behind " + month, Tester.INDEX, () -> sale.charge(number + 1));
            if (month < 35) {
                sale.endMonth();
            }
        }
    }

    private static void indexOfAQuarter() {
        t.topic("4: the index of the latest earlier quarter that is set, or the base index");
        TimberSale sale = contract("35 0 100 0 0 0", "0 5000", 20000);
        rates(sale, 20000, 20000, 20000, 20000);
        sale.setIndex(5, 0, 1);
        rates(sale, 20000, 20000, 15001, 15001);
        sale.setIndex(11, 0, 10000);
        rates(sale, 20000, 20000, 15001, 25000);
        sale.setIndex(0, 0, 5001);
        rates(sale, 20001, 20001, 15001, 25000);
        sale.setIndex(4, 0, 5000);
        rates(sale, 20001, 20000, 15001, 25000);
        sale.setIndex(5, 0, 5002);
        rates(sale, 20001, 20000, 20002, 25000);
    }

    /** The rates of the quarters 0, 4, 5 and 11, and those of 3 and 10, which are as 0 and 5 are. */
    private static void rates(TimberSale sale, int first, int fourth, int fifth, int last) {
        t.due("quarter 0", first, () -> sale.rate(0, 0));
        t.due("quarter 3", first, () -> sale.rate(0, 3));
        t.due("quarter 4", fourth, () -> sale.rate(0, 4));
        t.due("quarter 5", fifth, () -> sale.rate(0, 5));
        t.due("quarter 10", fifth, () -> sale.rate(0, 10));
        t.due("quarter 11", last, () -> sale.rate(0, 11));
    }

    private static void roundingOfTheIndex() {
        t.topic("4: this quotient rounded down (towards negative numbers, too)");
        TimberSale sale = contract("1 0 1 0 0 0", "0 5000", 1000);
        int[][] rows = {{5000, 1000}, {5099, 1000}, {5100, 1001}, {5199, 1001}, {10000, 1050}, {4999, 999},
            {4900, 999}, {4899, 998}, {4800, 998}, {4799, 997}, {1, 950}};
        for (int[] row : rows) {
            sale.setIndex(0, 0, row[0]);
            t.due("index " + row[0], row[1], () -> sale.rate(0, 0));
        }
    }

    private static void leastRate() {
        t.topic("4: but at least the minimum rate");
        TimberSale sale = contract("1 0 100 0 0 0", "90 50", 100);
        int[][] rows = {{41, 91}, {40, 90}, {39, 90}, {1, 90}, {50, 100}};
        for (int[] row : rows) {
            sale.setIndex(0, 0, row[0]);
            t.due("index " + row[0], row[1], () -> sale.rate(0, 0));
        }
        TimberSale nothing = contract("1 0 100 0 0 0", "0 10000", 5);
        nothing.setIndex(0, 0, 1);
        t.due("never negative", 0, () -> nothing.rate(0, 0));
        t.due("index for 0", 1, () -> nothing.indexFor(0, 0));
        t.due("index for 1", 9996, () -> nothing.indexFor(0, 1));
    }

    private static void indexForARate() {
        t.topic("29: the least index, 1 to 10,000");
        TimberSale sale = contract("1 0 100 0 0 0", "90 50", 1000000);
        t.due("the greatest rate", 50, () -> sale.indexFor(0, 1000000));
        t.due("1 less", 49, () -> sale.indexFor(0, 999999));
        t.due("the first index is enough", 1, () -> sale.indexFor(0, 999951));
        t.due("just not enough", 2, () -> sale.indexFor(0, 999952));
        TimberSale low = contract("1 0 100 0 0 0", "90 50", 100);
        t.due("the last index", 10000, () -> low.indexFor(0, 10050));
        t.refused("just too much", Tester.ELEMENT, () -> low.indexFor(0, 10051));
        t.due("the minimum rate", 1, () -> low.indexFor(0, 90));
        t.due("1 more than it", 41, () -> low.indexFor(0, 91));
        TimberSale one = contract("1 0 1 0 0 0", "0 1", 100);
        t.due("a hundredth, the last index", 9901, () -> one.indexFor(0, 199));
        t.refused("a hundredth, too much", Tester.ELEMENT, () -> one.indexFor(0, 200));
        TimberSale none = contract("1 0 0 0 0 0", "90 50", 100);
        t.due("no share, the rate itself", 1, () -> none.indexFor(0, 100));
        t.due("no share, between the minimum rate and the rate", 1, () -> none.indexFor(0, 95));
        t.refused("no share, 1 more", Tester.ELEMENT, () -> none.indexFor(0, 101));
    }

    private static void sixtyLoads() {
        t.topic("5: at most 60 loads are scaled");
        TimberSale sale = plain();
        for (int load = 0; load < 60; load++) {
            int due = load;
            t.due("load " + load, due, () -> sale.scale(0, 10000, 0));
        }
        t.refused("a 61st", Tester.STATE, () -> sale.scale(0, 1, 0));
        t.due("nothing was scaled", 600000, () -> sale.scaled(ALL, 0, 36));
        t.refused("it has no number", Tester.INDEX, () -> sale.net(60));
        t.due("the last one has", 10000, () -> sale.net(59));
        t.refused("nor a check", Tester.INDEX, () -> sale.check(60, 1, 0));
        t.refused("nor can it be voided", Tester.INDEX, () -> sale.voidLoad(60));
        t.due("voided in the full state", 59, () -> sale.voidLoad(0));
        t.due("room for another", 59, () -> sale.scale(0, 5, 0));
        t.due("it is the last", 5, () -> sale.net(59));
        t.due("the last can be voided", 59, () -> sale.voidLoad(59));
        sale.scale(0, 6, 0);
        sale.endMonth();
        t.refused("a 61st in a later month", Tester.STATE, () -> sale.scale(0, 1, 0));
        t.due("the 60th can be checked", 1, () -> sale.check(59, 7, 0));
    }

    private static void netVolumes() {
        t.topic("5: rounded to the nearest whole number, halves upwards");
        TimberSale sale = plain();
        int[][] rows = {{1, 0, 1}, {1, 50, 1}, {1, 51, 0}, {1, 49, 1}, {1, 100, 0}, {3, 50, 2}, {3, 51, 1}, {5, 90, 1},
            {5, 91, 0}, {49, 99, 0}, {50, 99, 1}, {149, 99, 1}, {150, 99, 2}, {10000, 100, 0}, {10000, 99, 100},
            {10000, 0, 10000}, {9999, 1, 9899}, {9950, 1, 9851}, {9949, 1, 9850}};
        for (int load = 0; load < rows.length; load++) {
            int number = load;
            int[] row = rows[load];
            sale.scale(0, row[0], row[1]);
            t.due(row[0] + " with " + row[1] + " percent", row[2], () -> sale.net(number));
            sale.scale(0, 1, 100);
            t.due("the check, too", row[2], () -> sale.check(number + 1, row[0], row[1]));
            sale.undo();
            sale.undo();
        }
    }

    private static void checkedOnce() {
        t.topic("5: a load may be check-scaled once");
        TimberSale sale = plain();
        sale.scale(0, 10, 0);
        sale.scale(0, 10, 100);
        t.due("equal", 0, () -> sale.check(0, 10, 0));
        t.refused("twice, though it was equal", Tester.STATE, () -> sale.check(0, 10, 0));
        t.due("0 of 0", 0, () -> sale.check(1, 10, 100));
        t.refused("twice, though both are 0", Tester.STATE, () -> sale.check(1, 10, 0));
        sale.undo();
        t.due("an undone check is none", 10, () -> sale.check(1, 10, 0));
    }

    private static void loadsThatStay() {
        t.topic("32: scaled in the present month and not check-scaled");
        TimberSale sale = plain();
        sale.scale(0, 10, 0);
        sale.endMonth();
        sale.scale(0, 20, 0);
        sale.scale(0, 30, 0);
        sale.check(1, 20, 0);
        t.refused("the month before", Tester.STATE, () -> sale.voidLoad(0));
        t.refused("checked", Tester.STATE, () -> sale.voidLoad(1));
        t.due("neither", 2, () -> sale.voidLoad(2));
        t.refused("it is gone", Tester.INDEX, () -> sale.voidLoad(2));
        t.due("the others stay", 30, () -> sale.scaled(0, 0, 36));
        TimberSale only = plain();
        only.scale(0, 10, 0);
        t.due("the only one", 0, () -> only.voidLoad(0));
        t.refused("no load is left", Tester.INDEX, () -> only.voidLoad(0));
        t.due("the numbers begin with 0 again", 0, () -> only.scale(0, 10, 0));
    }

    private static void tolerances() {
        t.topic("5: the difference, times 100, is greater than S times the tolerance");
        // tolerance, S, C, factor
        int[][] rows = {{20, 100, 120, 1, 1}, {20, 100, 121, 121, 100}, {20, 100, 80, 1, 1}, {20, 100, 79, 79, 100},
            {0, 100, 100, 1, 1}, {0, 100, 101, 101, 100}, {0, 100, 99, 99, 100}, {0, 10000, 9999, 9999, 10000},
            {1, 99, 99, 1, 1}, {1, 99, 100, 100, 99}, {1, 100, 101, 1, 1}, {1, 101, 102, 1, 1}, {20, 1, 2, 2, 1},
            {20, 5, 6, 1, 1}, {20, 4, 5, 5, 4}, {20, 0, 1, 1, 1}, {20, 1, 0, 1, 1}, {0, 0, 0, 1, 1},
            {20, 10000, 1, 1, 10000}, {20, 1, 10000, 10000, 1}};
        for (int[] row : rows) {
            TimberSale sale = contract("1 0 0 " + row[0] + " 0 0", "0 100", 10);
            scaleNet(sale, row[1]);
            sale.check(0, Math.max(1, row[2]), row[2] == 0 ? 100 : 0);
            String what = row[2] + " of " + row[1] + ", tolerance " + row[0];
            t.due(what + ", above", row[3], () -> sale.factor(false));
            t.due(what + ", below", row[4], () -> sale.factor(true));
        }
    }

    private static void scaleNet(TimberSale sale, int net) {
        sale.scale(0, Math.max(1, net), net == 0 ? 100 : 0);
    }

    private static void sumsOfChecks() {
        t.topic("5: neither S nor C is 0");
        TimberSale sale = plain();
        t.due("no loads", 1, () -> sale.factor(false));
        scaleNet(sale, 0);
        scaleNet(sale, 30);
        scaleNet(sale, 10);
        t.due("no checks", 1, () -> sale.factor(true));
        sale.check(0, 40, 0);
        t.due("S is 0", 1, () -> sale.factor(false));
        sale.check(1, 30, 100);
        t.due("40 of 30, above", 4, () -> sale.factor(false));
        t.due("40 of 30, below", 3, () -> sale.factor(true));
        sale.check(2, 10, 100);
        t.due("40 of 40", 1, () -> sale.factor(false));
        TimberSale lost = plain();
        scaleNet(lost, 30);
        scaleNet(lost, 10);
        lost.check(0, 30, 100);
        t.due("C is 0", 1, () -> lost.factor(true));
        lost.check(1, 10, 0);
        t.due("10 of 40, above", 1, () -> lost.factor(false));
        t.due("10 of 40, below", 4, () -> lost.factor(true));
        lost.undo();
        t.due("undone", 1, () -> lost.factor(true));
    }

    private static void worstChecks() {
        t.topic("33: of several, the lowest one");
        TimberSale sale = plain();
        for (int net : new int[] {0, 10, 20, 20, 10000}) {
            scaleNet(sale, net);
        }
        sale.check(0, 10000, 0);
        t.refused("a first net volume of 0 does not count", Tester.ELEMENT, sale::worstCheck);
        sale.check(3, 30, 0);
        t.due("half more", 3, sale::worstCheck);
        sale.check(2, 10, 0);
        t.due("half less, a lower load", 2, sale::worstCheck);
        sale.check(1, 15, 0);
        t.due("half more, the lowest load", 1, sale::worstCheck);
        sale.check(4, 4999, 0);
        t.due("a little more than half", 4, sale::worstCheck);
        sale.undo();
        t.due("without it", 1, sale::worstCheck);
        sale.check(4, 5001, 0);
        t.due("a little less than half", 1, sale::worstCheck);
    }

    private static void shares() {
        t.topic("35: a fraction in lowest terms; 0 / 1 if the latter is 0");
        TimberSale sale = plain();
        share("nothing", sale, 0, 1);
        sale.scale(0, 1, 0);
        share("one tenth of 1000", sale, 1, 1000);
        sale.scale(0, 999, 0);
        share("all", sale, 1, 1);
        sale.scale(0, 1, 0);
        share("more than all", sale, 1001, 1000);
        TimberSale none = Tester.sale("sale 10 1 0 0 0 0 0;species 0 100;plot 0;");
        none.advertise();
        none.seal(0);
        none.open();
        none.award();
        share("no volume", none, 0, 1);
        none.scale(0, 1, 0);
        share("no volume, but a load", none, 0, 1);
        t.due("nothing remains of nothing", 0, () -> none.remaining(0));
    }

    private static void share(String what, TimberSale sale, int above, int below) {
        t.due(what + ", above", above, () -> sale.cutShare(false));
        t.due(what + ", below", below, () -> sale.cutShare(true));
    }

    private static void charges() {
        t.topic("6: each rounded down to cents");
        TimberSale sale = Tester.sale("sale 10 1 0 0 0 0 0;" + "species 0 100;".repeat(6) + "plot 1 1 1 1 1 1;");
        sale.advertise();
        Tester.bid(sale, 0, 0, 9, 9, 9, 9, 9, 9);
        sale.open();
        sale.award();
        for (int species = 0; species < 6; species++) {
            sale.scale(species, 1, 0);
        }
        t.due("six times 0.9", 0, () -> sale.charge(0));
        sale.scale(0, 1, 0);
        t.due("1.8 and five times 0.9", 1, () -> sale.charge(0));
        for (int load = 0; load < 8; load++) {
            sale.scale(5, 1, 0);
        }
        t.due("9 times 0.9 is 8.1, as a sum", 9, () -> sale.charge(0));
        sale.check(0, 2, 0);
        t.due("with the factor 2: 3.6, 1.8 four times, 16.2", 23, () -> sale.charge(0));
        t.due("in the end of the month", 23, sale::endMonth);
        TimberSale less = plain();
        less.scale(0, 3, 0);
        less.check(0, 1, 0);
        t.due("a factor below 1: 3 * 10 / 3 / 10", 1, () -> less.charge(0));
        less.scale(0, 1, 0);
        t.due("4 / 3 is 1", 1, () -> less.charge(0));
        less.scale(0, 2, 0);
        t.due("6 / 3 is 2", 2, () -> less.charge(0));
    }

    private static void interests() {
        t.topic("6: if the debt is greater than 0, debt * interest / 1000, rounded down");
        int[][] rows = {{50, 19, 19}, {50, 20, 21}, {50, 39, 40}, {50, 40, 42}, {1, 999, 999}, {1, 1000, 1001},
            {0, 10000, 10000}, {50, 1, 1}, {50, 10000, 10500}};
        for (int[] row : rows) {
            TimberSale sale = contract("35 0 0 0 " + row[0] + " 0", "0 100", 10);
            sale.scale(0, row[1], 0);
            t.due("the debt", row[1], sale::endMonth);
            t.due("projected: " + row[0] + " per mille of " + row[1], row[2], () -> sale.projectedDebt(1));
            t.due(row[0] + " per mille of " + row[1], row[2], sale::endMonth);
        }
        TimberSale sale = contract("35 0 0 0 50 0", "0 100", 10);
        sale.pay(1000);
        t.due("none below 0", -1000, sale::endMonth);
        sale.scale(0, 1000, 0);
        t.due("up to 0", 0, sale::endMonth);
        t.due("none of 0", 0, sale::endMonth);
        sale.scale(0, 20, 0);
        t.due("first the interest, then the charge", 20, sale::endMonth);
        t.due("now with interest", 21, sale::endMonth);
        sale.pay(22);
        t.due("none of -1", -1, sale::endMonth);
    }

    private static void lastMonth() {
        t.topic("4: its last possible month is 35");
        TimberSale sale = plain();
        endMonths(sale, 34);
        sale.scale(0, 7, 0);
        t.due("the end of month 34", 7, sale::endMonth);
        t.due("month", 35, sale::month);
        sale.scale(0, 8, 0);
        t.refused("month 35 cannot be ended", Tester.STATE, sale::endMonth);
        t.due("the debt stays", 7, sale::debt);
        t.due("the month stays", 35, sale::month);
        t.due("the last month is scaled", 8, () -> sale.scaled(ALL, 35, 36));
        t.due("the last but one", 7, () -> sale.scaled(ALL, 34, 35));
        t.due("nothing behind", 0, () -> sale.scaled(ALL, 36, 36));
        t.due("the limit does not matter", 15, () -> sale.projectedDebt(12));
        t.due("it can be closed: 7, 8 and the deposit", -85, sale::close);
        t.due("it stays the month", 35, sale::month);
        t.due("its charge", 8, () -> sale.charge(35));
        t.refused("no month 36", Tester.INDEX, () -> sale.charge(36));
    }

    private static void adjustments() {
        t.topic("6: the adjustment");
        TimberSale sale = contract("35 0 100 0 0 0", "0 100", 10);
        t.due("no month has ended", 0, sale::adjustment);
        sale.scale(0, 100, 0);
        sale.setIndex(0, 0, 101);
        t.due("the present month does not count", 0, sale::adjustment);
        sale.endMonth();
        t.due("as it was booked", 0, sale::adjustment);
        sale.setIndex(0, 0, 102);
        t.due("a higher index", 10, sale::adjustment);
        sale.setIndex(0, 0, 100);
        t.due("a lower index", -10, sale::adjustment);
        sale.setIndex(1, 0, 9000);
        t.due("an index of a later quarter", -10, sale::adjustment);
        sale.check(0, 200, 0);
        t.due("200 instead of 110", 90, sale::adjustment);
        sale.endMonth();
        t.due("the next month is booked as it is", 90, sale::adjustment);
        t.due("the debt is as booked", 110, sale::debt);
        t.due("closed: 110 and 90 and the deposit", 100, sale::close);
        t.due("0 afterwards", 0, sale::adjustment);
    }

    private static void closing() {
        t.topic("6: when the contract is closed");
        TimberSale sale = contract("35 0 100 0 50 0", "0 100", 10);
        sale.scale(0, 1000, 0);
        sale.endMonth();
        sale.setIndex(0, 0, 101);
        sale.scale(0, 100, 0);
        // 1000 with interest 1050, then 110, the adjustment 100 without interest, the deposit 100
        t.due("the debt", 1160, sale::close);
        t.due("the phase", 4, sale::phase);
        t.due("no adjustment", 0, sale::adjustment);
        t.refused("closed twice", Tester.STATE, sale::close);
        t.refused("no default", Tester.STATE, sale::declareDefault);
        t.due("paid", 0, () -> sale.pay(1160));
        t.due("paid too much", -1, () -> sale.pay(1));
        TimberSale first = plain();
        t.due("in month 0 without a load", -100, first::close);
        t.due("month 0", 0, first::month);
        TimberSale credit = contract("35 0 0 0 50 0", "0 100", 10);
        credit.pay(1000);
        t.due("no interest below 0", -1100, credit::close);
    }

    private static void projections() {
        t.topic("43: 1 to 12 months");
        TimberSale sale = contract("35 0 0 0 50 0", "0 100", 10);
        sale.scale(0, 20, 0);
        long[] due = {20, 21, 22, 23, 24, 25, 26, 27, 28, 29, 30, 31};
        for (int months = 1; months <= 12; months++) {
            int number = months;
            t.due(months + " months", due[months - 1], () -> sale.projectedDebt(number));
        }
        for (int months = 1; months <= 12; months++) {
            t.due("and so it comes", due[months - 1], sale::endMonth);
        }
        TimberSale none = plain();
        t.due("nothing", 0, () -> none.projectedDebt(12));
        none.pay(5);
        t.due("below 0", -5, () -> none.projectedDebt(12));
        none.scale(0, 5, 0);
        t.due("up to 0", 0, () -> none.projectedDebt(1));
    }

    /** The greatest sums that a run can have stay exact: the factor 300,000 and 47 months of interest. */
    private static void greatestDebt() {
        t.topic("the greatest debt");
        TimberSale sale = contract("35 0 100 0 50 0", "0 1", 1000000);
        sale.setIndex(0, 0, 10000);
        sale.scale(0, 1, 0);
        for (int load = 1; load < 30; load++) {
            sale.scale(0, 1, 100);
        }
        for (int load = 30; load < 60; load++) {
            sale.scale(0, 10000, 0);
        }
        for (int load = 0; load < 30; load++) {
            sale.check(load, 10000, 0);
        }
        t.due("the factor", 300000, () -> sale.factor(false));
        BigInteger debt = BigInteger.valueOf(300001).multiply(BigInteger.valueOf(1009999))
                .multiply(BigInteger.valueOf(30000));
        t.due("the charge", debt.longValueExact(), () -> sale.charge(0));
        t.due("the first month", debt.longValueExact(), sale::endMonth);
        for (int month = 1; month < 35; month++) {
            debt = withInterest(debt);
            t.due("month " + month, debt.longValueExact(), sale::endMonth);
        }
        for (int months = 1; months <= 12; months++) {
            debt = withInterest(debt);
            int number = months;
            t.due("projected " + months, debt.longValueExact(), () -> sale.projectedDebt(number));
        }
        t.due("no adjustment", 0, sale::adjustment);
    }

    private static BigInteger withInterest(BigInteger debt) {
        return debt.add(debt.multiply(BigInteger.valueOf(50)).divide(BigInteger.valueOf(1000)));
    }
}
