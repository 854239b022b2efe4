/** Promises 27 to 46: index, scaling and money of a contract. */
public final class ContractTest {
    private static final int ALL = TimberSale.NONE;
    // Term 3, share 50, tolerance 5, interest 10; volumes 60 and 10, minimum rates 100 and 50.
    private static final String TWO = "sale 10 3 10 50 5 10 5000;species 100 100;species 50 200;"
            + "plot 4 2;plot 6 1;plot 8 0;";
    private static final Tester t = new Tester();

    public static void main(String[] args) {
        setIndex();
        rate();
        indexFor();
        scale();
        check();
        voidLoad();
        worstCheck();
        scaled();
        cutShare();
        net();
        factor();
        month();
        endMonth();
        charge();
        pay();
        debt();
        projectedDebt();
        adjustment();
        close();
        remaining();
        greatestNumbers();
        t.end();
    }

    /** Bidder 7 has the contract with the rates 100 and 90 and the deposit 690. */
    private static TimberSale contract() {
        TimberSale sale = opened();
        sale.award();
        return sale;
    }

    private static TimberSale opened() {
        TimberSale sale = Tester.sale(TWO);
        sale.advertise();
        Tester.bid(sale, 7, 690, 100, 90);
        sale.open();
        return sale;
    }

    private static TimberSale closed() {
        TimberSale sale = contract();
        sale.close();
        return sale;
    }

    /** One species, and one bid with one rate and the deposit 0. */
    private static TimberSale single(String numbers, String species, String plots, int rate) {
        TimberSale sale = Tester.sale("sale " + numbers + ";species " + species + ";" + plots);
        sale.advertise();
        Tester.bid(sale, 0, 0, rate);
        sale.open();
        sale.award();
        return sale;
    }

    private static void setIndex() {
        t.topic("promise 27");
        TimberSale sale = contract();
        sale.setIndex(11, 1, 10000);
        t.due("the last quarter", 4990, () -> sale.rate(1, 11));
        sale.setIndex(11, 1, 1);
        t.due("set once more", 50, () -> sale.rate(1, 11));
        t.due("other quarter", 90, () -> sale.rate(1, 10));
        t.due("other species", 100, () -> sale.rate(0, 11));
        t.refused("quarter 12", Tester.INDEX, () -> sale.setIndex(12, 0, 0));
        t.refused("quarter -1", Tester.INDEX, () -> sale.setIndex(-1, 0, 1));
        t.refused("species 2", Tester.INDEX, () -> sale.setIndex(0, 2, 1));
        t.refused("NONE", Tester.INDEX, () -> sale.setIndex(0, ALL, 1));
        t.refused("index 0", Tester.ARGUMENT, () -> sale.setIndex(0, 0, 0));
        t.refused("index 10,001", Tester.ARGUMENT, () -> sale.setIndex(0, 0, 10001));
        t.refused("before the award", Tester.STATE, () -> opened().setIndex(0, 0, 1));
        t.refused("the argument is named first", Tester.ARGUMENT, () -> opened().setIndex(0, 0, 0));
        t.refused("closed", Tester.STATE, () -> closed().setIndex(0, 0, 1));
    }

    private static void rate() {
        t.topic("promise 28");
        TimberSale sale = contract();
        t.due("the base index", 100, () -> sale.rate(0, 0));
        sale.setIndex(2, 0, 103);
        t.due("before", 100, () -> sale.rate(0, 1));
        t.due("3 * 50 / 100, rounded down", 101, () -> sale.rate(0, 2));
        t.due("behind", 101, () -> sale.rate(0, 3));
        t.due("far behind", 101, () -> sale.rate(0, 11));
        sale.setIndex(4, 0, 97);
        t.due("at least the minimum rate", 100, () -> sale.rate(0, 4));
        t.due("the latest earlier one", 101, () -> sale.rate(0, 3));
        sale.setIndex(0, 1, 199);
        t.due("-1 * 50 / 100, rounded down", 89, () -> sale.rate(1, 0));
        t.refused("species 2", Tester.INDEX, () -> sale.rate(2, 0));
        t.refused("NONE", Tester.INDEX, () -> sale.rate(ALL, 0));
        t.refused("quarter 12", Tester.INDEX, () -> sale.rate(0, 12));
        t.refused("quarter -1", Tester.INDEX, () -> sale.rate(0, -1));
        t.refused("opened", Tester.STATE, () -> opened().rate(0, 0));
        t.refused("the index is named first", Tester.INDEX, () -> opened().rate(0, 12));
        t.due("closed", 90, () -> closed().rate(1, 5));
        TimberSale share = single("2 1 0 0 0 0 0", "0 100", "", 1000);
        share.setIndex(0, 0, 9999);
        t.due("no share", 1000, () -> share.rate(0, 0));
    }

    private static void indexFor() {
        t.topic("promise 29");
        TimberSale sale = contract();
        t.due("the minimum rate", 1, () -> sale.indexFor(0, 100));
        t.due("1 more than the rate", 102, () -> sale.indexFor(0, 101));
        t.due("the rate", 200, () -> sale.indexFor(1, 90));
        t.due("1 less", 198, () -> sale.indexFor(1, 89));
        t.due("just above the minimum rate", 122, () -> sale.indexFor(1, 51));
        t.due("0", 1, () -> sale.indexFor(1, 0));
        t.due("the greatest index", 10000, () -> sale.indexFor(0, 5050));
        t.refused("one more", Tester.ELEMENT, () -> sale.indexFor(0, 5051));
        t.refused("1,000,000", Tester.ELEMENT, () -> sale.indexFor(0, 1000000));
        t.refused("1,000,001", Tester.ARGUMENT, () -> sale.indexFor(0, 1000001));
        t.refused("-1", Tester.ARGUMENT, () -> sale.indexFor(0, -1));
        t.refused("species 2", Tester.INDEX, () -> sale.indexFor(2, -1));
        t.refused("NONE", Tester.INDEX, () -> sale.indexFor(ALL, 1));
        t.refused("opened", Tester.STATE, () -> opened().indexFor(0, 1));
        t.refused("the argument is named first", Tester.ARGUMENT, () -> opened().indexFor(0, -1));
        sale.setIndex(0, 0, 300);
        t.due("the set index does not matter", 102, () -> sale.indexFor(0, 101));
        t.due("closed", 102, () -> closed().indexFor(0, 101));
        TimberSale third = single("2 1 0 30 0 0 0", "0 100", "", 100);
        t.due("4 * 30 / 100 is 1", 104, () -> third.indexFor(0, 101));
        t.due("-3 * 30 / 100 is -1", 97, () -> third.indexFor(0, 99));
        TimberSale low = single("2 1 0 100 0 0 0", "0 5", "", 100);
        t.due("not below 1", 1, () -> low.indexFor(0, 90));
        TimberSale none = single("2 1 0 0 0 0 0", "0 100", "", 100);
        t.due("no share, the rate", 1, () -> none.indexFor(0, 100));
        t.refused("no share, more", Tester.ELEMENT, () -> none.indexFor(0, 101));
        for (int rate = 40; rate < 120; rate++) {
            int wanted = rate;
            int index = sale.indexFor(1, rate);
            sale.setIndex(0, 1, index);
            t.due("enough for " + rate, true, sale.rate(1, 0) >= wanted);
            if (index > 1) {
                sale.setIndex(0, 1, index - 1);
                t.due("less is not enough for " + rate, true, sale.rate(1, 0) < wanted);
            }
        }
    }

    private static void scale() {
        t.topic("promise 30");
        TimberSale sale = contract();
        t.due("the first load", 0, () -> sale.scale(0, 1, 0));
        t.due("the second load", 1, () -> sale.scale(1, 10000, 100));
        t.refused("species 2", Tester.INDEX, () -> sale.scale(2, 0, 0));
        t.refused("NONE", Tester.INDEX, () -> sale.scale(ALL, 1, 0));
        t.refused("gross 0", Tester.ARGUMENT, () -> sale.scale(0, 0, 0));
        t.refused("gross 10,001", Tester.ARGUMENT, () -> sale.scale(0, 10001, 0));
        t.refused("defect -1", Tester.ARGUMENT, () -> sale.scale(0, 1, -1));
        t.refused("defect 101", Tester.ARGUMENT, () -> sale.scale(0, 1, 101));
        t.due("nothing was scaled", 2, () -> sale.scale(0, 7, 0));
        for (int load = 3; load < 60; load++) {
            int number = load;
            t.due("load " + load, number, () -> sale.scale(1, 1, 0));
        }
        t.refused("a 61st", Tester.STATE, () -> sale.scale(0, 1, 0));
        t.refused("the argument is named first", Tester.ARGUMENT, () -> sale.scale(0, 0, 0));
        sale.voidLoad(59);
        t.due("again the last", 59, () -> sale.scale(1, 1, 0));
        t.refused("opened", Tester.STATE, () -> opened().scale(0, 1, 0));
        t.refused("closed", Tester.STATE, () -> closed().scale(0, 1, 0));
    }

    private static void check() {
        t.topic("promise 31");
        TimberSale sale = contract();
        sale.scale(0, 100, 0);
        sale.scale(1, 100, 0);
        t.due("more", 5, () -> sale.check(0, 210, 50));
        t.due("less, 49.5 rounded up", -50, () -> sale.check(1, 99, 50));
        t.refused("twice", Tester.STATE, () -> sale.check(0, 100, 0));
        t.refused("load 2", Tester.INDEX, () -> sale.check(2, 0, 0));
        t.refused("load -1", Tester.INDEX, () -> sale.check(-1, 1, 0));
        t.refused("gross 0", Tester.ARGUMENT, () -> sale.check(0, 0, 0));
        t.refused("gross 10,001", Tester.ARGUMENT, () -> sale.check(0, 10001, 0));
        t.refused("defect -1", Tester.ARGUMENT, () -> sale.check(0, 1, -1));
        t.refused("defect 101", Tester.ARGUMENT, () -> sale.check(0, 1, 101));
        t.due("the first net volume stays", 100, () -> sale.net(0));
        sale.scale(0, 10000, 0);
        t.due("a check of 0", -10000, () -> sale.check(2, 1, 100));
        t.refused("a check of 0 is a check", Tester.STATE, () -> sale.check(2, 1, 0));
        sale.scale(0, 30, 0);
        sale.endMonth();
        t.due("a load of an earlier month", 0, () -> sale.check(3, 30, 0));
        t.due("a load of defect alone", 3, () -> sale.scale(0, 9, 100) - 1);
        sale.close();
        t.refused("closed", Tester.STATE, () -> sale.check(4, 1, 0));
        t.refused("the argument is named first", Tester.ARGUMENT, () -> sale.check(4, 0, 0));
        t.refused("opened", Tester.INDEX, () -> opened().check(0, 1, 0));
    }

    private static void voidLoad() {
        t.topic("promise 32");
        TimberSale sale = contract();
        for (int load = 0; load < 5; load++) {
            sale.scale(load % 2, 10 + load, 0);
        }
        sale.check(2, 100, 0);
        t.due("four are left", 4, () -> sale.voidLoad(1));
        t.due("the numbers go down: 1", 12, () -> sale.net(1));
        t.due("the numbers go down: 2", 13, () -> sale.net(2));
        t.due("the numbers go down: 3", 14, () -> sale.net(3));
        t.due("the species go too", 13, () -> sale.scaled(1, 0, 36));
        t.due("and the rest", 36, () -> sale.scaled(0, 0, 36));
        t.refused("the check goes too", Tester.STATE, () -> sale.voidLoad(1));
        t.due("the checked one", 1, sale::worstCheck);
        t.refused("load 4", Tester.INDEX, () -> sale.voidLoad(4));
        t.refused("load -1", Tester.INDEX, () -> sale.voidLoad(-1));
        t.due("the last one", 3, () -> sale.voidLoad(3));
        t.due("the first one", 2, () -> sale.voidLoad(0));
        t.due("12 and 13 are left", 12, () -> sale.net(0));
        sale.endMonth();
        t.refused("an earlier month", Tester.STATE, () -> sale.voidLoad(1));
        sale.scale(0, 5, 0);
        t.due("this month", 2, () -> sale.voidLoad(2));
        sale.scale(0, 6, 0);
        sale.close();
        t.refused("closed", Tester.STATE, () -> sale.voidLoad(2));
        t.refused("the index is named first", Tester.INDEX, () -> sale.voidLoad(3));
        TimberSale again = contract();
        again.scale(0, 10, 0);
        again.check(0, 5, 0);
        again.scale(0, 10, 0);
        again.voidLoad(1);
        again.scale(0, 10, 0);
        t.due("a new load has no check", 0, () -> again.check(1, 10, 0));
    }

    private static void worstCheck() {
        t.topic("promise 33");
        TimberSale sale = contract();
        t.refused("no loads", Tester.ELEMENT, sale::worstCheck);
        sale.scale(0, 100, 100);
        sale.scale(0, 100, 0);
        sale.scale(0, 1000, 0);
        sale.scale(0, 10, 0);
        sale.scale(0, 20, 0);
        sale.scale(0, 10, 0);
        t.refused("no checks", Tester.ELEMENT, sale::worstCheck);
        sale.check(0, 50, 0);
        t.refused("the first net volume is 0", Tester.ELEMENT, sale::worstCheck);
        sale.check(5, 10, 0);
        t.due("no difference is one too", 5, sale::worstCheck);
        sale.check(2, 1050, 0);
        t.due("5 percent", 2, sale::worstCheck);
        sale.check(1, 94, 0);
        t.due("6 percent less", 1, sale::worstCheck);
        sale.check(4, 22, 0);
        t.due("10 percent", 4, sale::worstCheck);
        sale.check(3, 9, 0);
        t.due("10 percent, a lower number", 3, sale::worstCheck);
        sale.close();
        t.due("closed", 3, sale::worstCheck);
        t.refused("before the contract", Tester.ELEMENT, () -> opened().worstCheck());
        TimberSale first = contract();
        first.scale(0, 1, 0);
        first.scale(0, 1000, 0);
        first.check(0, 2, 0);
        first.check(1, 1999, 0);
        t.due("a net volume of 1, the first load", 0, first::worstCheck);
        TimberSale near = contract();
        near.scale(0, 3, 0);
        near.scale(0, 2, 0);
        near.scale(0, 10000, 0);
        near.scale(0, 9999, 0);
        near.check(0, 2, 0);
        near.check(1, 1, 0);
        t.due("a half is more than a third", 1, near::worstCheck);
        near.check(2, 20, 0);
        near.check(3, 19, 0);
        t.due("9980 of 9999 is a little more than 9980 of 10000", 3, near::worstCheck);
    }

    private static void scaled() {
        t.topic("promise 34");
        TimberSale sale = contract();
        sale.scale(0, 1, 0);
        sale.scale(1, 10, 0);
        sale.endMonth();
        sale.scale(0, 100, 0);
        sale.check(2, 1, 0);
        sale.endMonth();
        sale.scale(0, 1000, 0);
        t.due("all", 1111, () -> sale.scaled(ALL, 0, 36));
        t.due("species 0", 1101, () -> sale.scaled(0, 0, 36));
        t.due("species 1", 10, () -> sale.scaled(1, 0, 36));
        t.due("the months end before the second one", 11, () -> sale.scaled(ALL, 0, 1));
        t.due("the middle", 100, () -> sale.scaled(ALL, 1, 2));
        t.due("from the middle", 1100, () -> sale.scaled(0, 1, 3));
        t.due("no months", 0, () -> sale.scaled(ALL, 1, 1));
        t.due("no months at the end", 0, () -> sale.scaled(ALL, 36, 36));
        t.due("no months at the beginning", 0, () -> sale.scaled(ALL, 0, 0));
        t.refused("species 2", Tester.INDEX, () -> sale.scaled(2, -1, 0));
        t.refused("species -2", Tester.INDEX, () -> sale.scaled(-2, 0, 0));
        t.refused("from -1", Tester.ARGUMENT, () -> sale.scaled(0, -1, 0));
        t.refused("from 37", Tester.ARGUMENT, () -> sale.scaled(0, 37, 37));
        t.refused("to 37", Tester.ARGUMENT, () -> sale.scaled(0, 0, 37));
        t.refused("to before from", Tester.ARGUMENT, () -> sale.scaled(0, 2, 1));
        t.refused("opened", Tester.STATE, () -> opened().scaled(0, 0, 1));
        t.refused("the argument is named first", Tester.ARGUMENT, () -> opened().scaled(0, 2, 1));
        sale.close();
        t.due("closed", 1111, () -> sale.scaled(ALL, 0, 36));
    }

    private static void cutShare() {
        t.topic("promise 35");
        TimberSale sale = contract();
        t.due("nothing, above", 0, () -> sale.cutShare(false));
        t.due("nothing, below", 1, () -> sale.cutShare(true));
        sale.scale(0, 35, 0);
        sale.scale(1, 70, 50);
        sale.check(0, 100, 0);
        sale.endMonth();
        // 70 tenths of 700
        t.due("a tenth, above", 1, () -> sale.cutShare(false));
        t.due("a tenth, below", 10, () -> sale.cutShare(true));
        sale.scale(0, 1000, 0);
        t.due("more than all, above", 107, () -> sale.cutShare(false));
        t.due("more than all, below", 70, () -> sale.cutShare(true));
        sale.close();
        t.due("closed", 107, () -> sale.cutShare(false));
        TimberSale empty = single("2 1 0 0 0 0 0", "0 100", "", 100);
        empty.scale(0, 100, 0);
        t.due("no volume, above", 0, () -> empty.cutShare(false));
        t.due("no volume, below", 1, () -> empty.cutShare(true));
        t.refused("opened", Tester.STATE, () -> opened().cutShare(true));
    }

    private static void net() {
        t.topic("promise 36");
        TimberSale sale = contract();
        int[][] loads = {{1005, 10, 905}, {1, 50, 1}, {1, 51, 0}, {10000, 0, 10000}, {10000, 100, 0},
            {3, 50, 2}, {149, 1, 148}, {151, 1, 149}, {9999, 99, 100}};
        for (int load = 0; load < loads.length; load++) {
            int number = load;
            sale.scale(0, loads[load][0], loads[load][1]);
            t.due("load " + load, loads[load][2], () -> sale.net(number));
        }
        sale.check(0, 1, 0);
        t.due("the check does not matter", 905, () -> sale.net(0));
        t.refused("load 9", Tester.INDEX, () -> sale.net(9));
        t.refused("load -1", Tester.INDEX, () -> sale.net(-1));
        t.refused("before the contract", Tester.INDEX, () -> opened().net(0));
        sale.close();
        t.due("closed", 905, () -> sale.net(0));
    }

    private static void factor() {
        t.topic("promise 37");
        factorOf("5 percent is within the tolerance", 100, 105, 1, 1);
        factorOf("5 percent less, too", 100, 95, 1, 1);
        factorOf("6 percent", 100, 106, 53, 50);
        factorOf("6 percent less", 100, 94, 47, 50);
        factorOf("just more", 1000, 1051, 1051, 1000);
        factorOf("even less more", 9500, 9976, 2494, 2375);
        factorOf("not more", 9500, 9975, 1, 1);
        factorOf("the check is 0", 100, 0, 1, 1);
        factorOf("the first is 0", 0, 100, 1, 1);
        factorOf("both are 0", 0, 0, 1, 1);
        factorOf("the greatest", 1, 10000, 10000, 1);
        TimberSale sale = contract();
        sale.scale(0, 100, 0);
        sale.scale(1, 100, 0);
        sale.scale(1, 7000, 0);
        sale.check(0, 120, 0);
        t.due("one check, above", 6, () -> sale.factor(false));
        t.due("one check, below", 5, () -> sale.factor(true));
        sale.check(1, 91, 0);
        // 211 of 200: more than 5 percent
        t.due("two checks, above", 211, () -> sale.factor(false));
        t.due("two checks, below", 200, () -> sale.factor(true));
        sale.close();
        t.due("closed", 211, () -> sale.factor(false));
        TimberSale exact = single("2 1 0 0 0 0 0", "0 100", "", 100);
        exact.scale(0, 1000, 0);
        exact.check(0, 1001, 0);
        t.due("no tolerance, above", 1001, () -> exact.factor(false));
        t.due("no tolerance, below", 1000, () -> exact.factor(true));
    }

    private static void factorOf(String what, int first, int second, int above, int below) {
        TimberSale sale = contract();
        sale.scale(0, Math.max(first, 1), first == 0 ? 100 : 0);
        sale.check(0, Math.max(second, 1), second == 0 ? 100 : 0);
        t.due(what + ", above", above, () -> sale.factor(false));
        t.due(what + ", below", below, () -> sale.factor(true));
    }

    private static void month() {
        t.topic("promise 38");
        TimberSale sale = contract();
        t.due("at first", 0, sale::month);
        for (int month = 1; month <= 35; month++) {
            sale.endMonth();
            t.due("month " + month, month, sale::month);
        }
        t.due("before the contract", 0, () -> opened().month());
        sale.close();
        t.due("closed", 35, sale::month);
    }

    private static void endMonth() {
        t.topic("promise 39");
        TimberSale sale = contract();
        sale.scale(0, 1000, 0);
        t.due("1000 * 100 / 10", 10000, sale::endMonth);
        sale.scale(1, 15, 0);
        t.due("interest 100, then 15 * 90 / 10", 10235, sale::endMonth);
        t.due("interest 102.35, rounded down", 10337, sale::endMonth);
        sale.pay(10337);
        t.due("no debt", 0, sale::endMonth);
        sale.pay(5000);
        t.due("no interest on what is below 0", -5000, sale::endMonth);
        sale.scale(0, 504, 0);
        t.due("the interest comes first", 40, sale::endMonth);
        t.due("0.4 is nothing", 40, sale::endMonth);
        while (sale.month() < 35) {
            sale.endMonth();
        }
        t.refused("month 35", Tester.STATE, sale::endMonth);
        t.due("it stays", 35, sale::month);
        t.refused("opened", Tester.STATE, () -> opened().endMonth());
        t.refused("closed", Tester.STATE, () -> closed().endMonth());
        TimberSale factor = contract();
        factor.scale(0, 100, 0);
        factor.check(0, 150, 0);
        t.due("with the present factor", 1500, factor::endMonth);
    }

    private static void charge() {
        t.topic("promise 40");
        TimberSale sale = contract();
        t.due("nothing", 0, () -> sale.charge(0));
        sale.scale(0, 1, 0);
        sale.scale(1, 1, 0);
        sale.setIndex(0, 0, 103);
        sale.setIndex(0, 1, 199);
        // 1 * 101 / 10 and 1 * 89 / 10
        t.due("each is rounded down", 18, () -> sale.charge(0));
        sale.scale(0, 4, 0);
        // 5 * 101 / 10 and 8
        t.due("the sum of the loads of a species", 58, () -> sale.charge(0));
        sale.endMonth();
        t.due("a month without loads", 0, () -> sale.charge(1));
        t.due("an earlier month", 58, () -> sale.charge(0));
        sale.setIndex(0, 0, 100);
        t.due("the present index", 58, () -> sale.charge(0));
        sale.setIndex(0, 0, 200);
        t.due("5 * 150 / 10 and 8", 83, () -> sale.charge(0));
        sale.check(0, 2, 0);
        t.due("the present factor: 150 and 17.8", 167, () -> sale.charge(0));
        t.refused("month 2", Tester.INDEX, () -> sale.charge(2));
        t.refused("month -1", Tester.INDEX, () -> sale.charge(-1));
        sale.close();
        t.due("closed", 167, () -> sale.charge(0));
        t.refused("opened", Tester.STATE, () -> opened().charge(0));
        t.refused("the index is named first", Tester.INDEX, () -> opened().charge(1));
        TimberSale quarters = contract();
        quarters.setIndex(1, 0, 200);
        quarters.endMonth();
        quarters.endMonth();
        quarters.scale(0, 10, 0);
        quarters.endMonth();
        quarters.scale(0, 10, 0);
        t.due("month 2 is in quarter 0", 100, () -> quarters.charge(2));
        t.due("month 3 is in quarter 1", 150, () -> quarters.charge(3));
    }

    private static void pay() {
        t.topic("promise 41");
        TimberSale sale = contract();
        t.due("in advance", -1, () -> sale.pay(1));
        t.due("the greatest amount", -1000000001, () -> sale.pay(1000000000));
        t.refused("0", Tester.ARGUMENT, () -> sale.pay(0));
        t.refused("-1", Tester.ARGUMENT, () -> sale.pay(-1));
        t.refused("1,000,000,001", Tester.ARGUMENT, () -> sale.pay(1000000001));
        sale.pay(1000000000);
        sale.pay(1000000000);
        t.due("more than an int holds", -4000000001L, () -> sale.pay(1000000000));
        t.refused("opened", Tester.STATE, () -> opened().pay(1));
        t.refused("the argument is named first", Tester.ARGUMENT, () -> opened().pay(0));
        t.due("closed", -700, () -> closed().pay(10));
    }

    private static void debt() {
        t.topic("promise 42");
        TimberSale sale = contract();
        t.due("at first", 0, sale::debt);
        sale.scale(0, 1000, 0);
        t.due("a load is no debt yet", 0, sale::debt);
        sale.endMonth();
        t.due("after the month", 10000, sale::debt);
        sale.pay(10001);
        t.due("below 0", -1, sale::debt);
        sale.close();
        t.due("without the deposit", -691, sale::debt);
        t.due("before the contract", 0, () -> opened().debt());
    }

    private static void projectedDebt() {
        t.topic("promise 43");
        TimberSale sale = contract();
        sale.scale(0, 100, 0);
        sale.endMonth();
        sale.scale(1, 10, 0);
        long[] due = {1100, 1111, 1122, 1133, 1144, 1155, 1166, 1177, 1188, 1199, 1210, 1222};
        for (int months = 1; months <= 12; months++) {
            int number = months;
            t.due(months + " months", due[months - 1], () -> sale.projectedDebt(number));
        }
        t.due("nothing changes", 1000, sale::debt);
        t.due("nor the month", 1, sale::month);
        t.refused("0", Tester.ARGUMENT, () -> sale.projectedDebt(0));
        t.refused("13", Tester.ARGUMENT, () -> sale.projectedDebt(13));
        t.refused("opened", Tester.STATE, () -> opened().projectedDebt(1));
        t.refused("closed", Tester.STATE, () -> closed().projectedDebt(1));
        t.refused("the argument is named first", Tester.ARGUMENT, () -> opened().projectedDebt(0));
        while (sale.month() < 35) {
            sale.endMonth();
        }
        sale.pay((int) sale.debt());
        sale.scale(0, 100, 0);
        t.due("the limit does not matter", 1010, () -> sale.projectedDebt(2));
        sale.pay(5000);
        t.due("no interest on what is below 0", -4000, () -> sale.projectedDebt(12));
    }

    private static void adjustment() {
        t.topic("promise 44");
        TimberSale sale = contract();
        sale.scale(0, 100, 0);
        sale.endMonth();
        t.due("as booked", 0, sale::adjustment);
        sale.scale(1, 10, 0);
        sale.setIndex(0, 0, 103);
        sale.setIndex(0, 1, 300);
        t.due("the index, ended months only", 10, sale::adjustment);
        sale.endMonth();
        t.due("the second month is booked now", 10, sale::adjustment);
        sale.check(0, 50, 0);
        // 505 + 70 instead of 1000 and 140
        t.due("the factor", -565, sale::adjustment);
        t.due("the debt does not change", 1150, sale::debt);
        t.due("before the contract", 0, () -> opened().adjustment());
        sale.close();
        t.due("closed", 0, sale::adjustment);
    }

    private static void close() {
        t.topic("promise 45");
        TimberSale sale = contract();
        sale.scale(0, 100, 0);
        sale.endMonth();
        sale.scale(1, 10, 0);
        sale.setIndex(0, 0, 103);
        // 1000, interest 10, charge 90, adjustment 10, deposit 690
        t.due("the debt", 420, sale::close);
        t.due("phase", 4, sale::phase);
        t.due("the month stays", 1, sale::month);
        t.due("no adjustment is left", 0, sale::adjustment);
        t.due("the charge of the month", 90, () -> sale.charge(1));
        t.due("it can be paid", 0, () -> sale.pay(420));
        t.refused("twice", Tester.STATE, sale::close);
        t.refused("opened", Tester.STATE, () -> opened().close());
        TimberSale last = contract();
        while (last.month() < 35) {
            last.endMonth();
        }
        last.scale(0, 100, 0);
        t.due("in the last month", 310, last::close);
        t.due("it stays, too", 35, last::month);
        t.due("nothing but the deposit", -690, () -> contract().close());
        TimberSale lower = contract();
        lower.scale(0, 100, 0);
        lower.endMonth();
        lower.check(0, 50, 0);
        // 1000, interest 10, adjustment -500, deposit 690
        t.due("with a negative adjustment", -180, lower::close);
    }

    private static void remaining() {
        t.topic("promise 46");
        TimberSale sale = contract();
        t.due("all", 60, () -> sale.remaining(0));
        sale.scale(0, 1, 0);
        t.due("rounded down", 59, () -> sale.remaining(0));
        sale.check(0, 500, 0);
        t.due("the check does not matter", 59, () -> sale.remaining(0));
        sale.endMonth();
        sale.scale(0, 9, 0);
        t.due("a whole cubic metre", 59, () -> sale.remaining(0));
        sale.scale(0, 10, 0);
        t.due("two of them", 58, () -> sale.remaining(0));
        t.due("species 1", 10, () -> sale.remaining(1));
        sale.scale(1, 91, 0);
        t.due("nine tenths are nothing", 0, () -> sale.remaining(1));
        sale.scale(1, 1000, 0);
        t.due("at least 0", 0, () -> sale.remaining(1));
        t.refused("species 2", Tester.INDEX, () -> sale.remaining(2));
        t.refused("NONE", Tester.INDEX, () -> sale.remaining(ALL));
        t.refused("opened", Tester.STATE, () -> opened().remaining(0));
        t.refused("the index is named first", Tester.INDEX, () -> opened().remaining(2));
        sale.close();
        t.due("closed", 58, () -> sale.remaining(0));
    }

    private static void greatestNumbers() {
        t.topic("the greatest numbers of a contract");
        TimberSale sale = single("2 1 0 100 0 50 0", "0 1", "", 1000000);
        sale.setIndex(0, 0, 10000);
        sale.scale(0, 1, 0);
        sale.check(0, 10000, 0);
        for (int load = 1; load < 60; load++) {
            sale.scale(0, 10000, 0);
        }
        t.due("rate", 1009999, () -> sale.rate(0, 0));
        // 590,001 * 1,009,999 * 10,000 / 10
        t.due("charge", 595900419999000L, () -> sale.charge(0));
        t.due("debt", 595900419999000L, sale::endMonth);
        t.due("with interest", 625695440998950L, sale::endMonth);
        t.due("adjustment", 0, sale::adjustment);
        TimberSale all = single("2 1 0 100 0 50 0", "0 1", "", 1000000);
        for (int load = 0; load < 60; load++) {
            all.scale(0, 9999, 0);
            all.check(load, 10000, 0);
        }
        // 599,940 * 1,000,000 * (10,000 / 9,999) / 10
        t.due("many checks", 60000000000L, () -> all.charge(0));
    }
}
