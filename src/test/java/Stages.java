/** The same sale in each of its nine phases. */
final class Stages {
    /** Term 3, deposit 10 percent, share 50, tolerance 5, interest 10; volumes 60 and 10. */
    static final String TEXT = "sale 10 3 10 50 5 10 5000;species 100 100;species 50 200;"
            + "plot 4 2;plot 6 1;plot 8 0;";
    static final int LAST = 8;
    static final String[] NAMES = {"cruise", "bidding", "opened", "contract", "closed", "defaulted",
        "second bidding", "second opened", "resold"};

    private Stages() {
    }

    /**
     * Bidders 7 and 3 are sealed at first, 0 and 3 and the barred 7 later; 4 has a bid that is not
     * sealed. There are four loads: 0 and 1 of month 0, of which 1 has been checked, and 2 and 3 of
     * the present month 1. A text of 20 bytes waits in the buffer, and the latest load had an error.
     */
    static TimberSale at(int phase) {
        TimberSale sale = Tester.sale(TEXT);
        Tester.load(sale, "sale !");
        Tester.append(sale, "sale 3 1 0 0 0 0 0 ;");
        if (phase >= 1) {
            sale.advertise();
            Tester.bid(sale, 7, 690, 100, 90);
            Tester.bid(sale, 3, 10000, 101, 50);
            sale.offer(4, 0, 300);
        }
        if (phase >= 2) {
            sale.open();
        }
        if (phase >= 3) {
            sale.award();
            work(sale);
        }
        if (phase == 4) {
            sale.close();
        }
        if (phase >= 5) {
            sale.declareDefault();
        }
        if (phase >= 6) {
            resell(sale, phase);
        }
        return sale;
    }

    private static void work(TimberSale sale) {
        sale.scale(0, 105, 0);
        sale.scale(1, 10, 0);
        sale.check(1, 12, 0);
        sale.endMonth();
        sale.setIndex(0, 0, 103);
        sale.scale(1, 20, 0);
        sale.scale(1, 21, 0);
    }

    private static void resell(TimberSale sale, int phase) {
        sale.advertise();
        Tester.bid(sale, 0, 10000, 100, 60);
        Tester.bid(sale, 7, 10000, 200, 60);
        Tester.bid(sale, 3, 10000, 101, 50);
        sale.offer(4, 0, 300);
        if (phase >= 7) {
            sale.open();
        }
        if (phase >= 8) {
            sale.award();
        }
    }
}
