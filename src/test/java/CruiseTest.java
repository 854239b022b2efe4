/** Promises 6 to 13: the plots and what is estimated from them. */
public final class CruiseTest {
    private static final int ALL = TimberSale.NONE;
    // Species 0 has 4, 6, 8; species 1 has 2, 1, 0; both together 6, 7, 8.
    private static final String THREE = "sale 10 3 10 50 5 10 5000;species 100 100;species 50 200;"
            + "plot 4 2;plot 6 1;plot 8 0;";
    private static final Tester t = new Tester();

    public static void main(String[] args) {
        plotCount();
        addPlot();
        removePlot();
        estimate();
        squaredError();
        isAccurate();
        neededPlots();
        mostInfluentialPlot();
        greatestNumbers();
        t.end();
    }

    private static void plotCount() {
        t.topic("promise 6");
        TimberSale sale = Tester.sale(THREE);
        t.due("plots", 3, sale::plotCount);
        sale.addPlot(1, 1, 0, 0, 0, 0);
        t.due("one more", 4, sale::plotCount);
        sale.removePlot(0);
        sale.removePlot(0);
        t.due("two fewer", 2, sale::plotCount);
        sale.advertise();
        t.due("in the bidding too", 2, sale::plotCount);
    }

    private static void addPlot() {
        t.topic("promise 7");
        TimberSale sale = Tester.sale("sale 200 1 0 0 0 0 0;" + "species 0 1;".repeat(6));
        t.due("six volumes", 1, () -> sale.addPlot(1, 2, 3, 4, 5, 500));
        for (int species = 0; species < 6; species++) {
            int which = species;
            int[] volumes = {1, 2, 3, 4, 5, 500};
            t.due("species " + species, 200L * volumes[species], () -> sale.estimate(which, false));
            t.refused("501 for " + species, Tester.ARGUMENT, () -> add(sale, which, 501));
            t.refused("-1 for " + species, Tester.ARGUMENT, () -> add(sale, which, -1));
        }
        t.due("nothing was added", 1, sale::plotCount);
        for (int plots = 2; plots <= 30; plots++) {
            t.due("plot " + plots, plots, () -> sale.addPlot(0, 0, 0, 0, 0, 0));
        }
        t.refused("a 31st", Tester.STATE, () -> sale.addPlot(0, 0, 0, 0, 0, 0));
        t.refused("the argument is named first", Tester.ARGUMENT, () -> sale.addPlot(0, 0, 501, 0, 0, 0));

        for (int kinds = 0; kinds < 6; kinds++) {
            TimberSale some = Tester.sale("sale 20 1 0 0 0 0 0;" + "species 0 1;".repeat(kinds));
            for (int species = 0; species < 6; species++) {
                int which = species;
                if (species < kinds) {
                    add(some, species, 1);
                } else {
                    t.refused(kinds + " species, not " + species, Tester.ARGUMENT, () -> add(some, which, 1));
                }
            }
            t.due(kinds + " species", kinds, some::plotCount);
        }

        TimberSale two = Tester.sale(THREE);
        for (int species = 2; species < 6; species++) {
            int which = species;
            t.refused("no species " + species, Tester.ARGUMENT, () -> add(two, which, 1));
        }
        t.due("0 for it is fine", 4, () -> two.addPlot(500, 500, 0, 0, 0, 0));
        for (int plots = 5; plots <= 10; plots++) {
            t.due("plot " + plots, plots, () -> two.addPlot(0, 0, 0, 0, 0, 0));
        }
        t.refused("one more than the size", Tester.STATE, () -> two.addPlot(0, 0, 0, 0, 0, 0));
        two.removePlot(9);
        two.advertise();
        t.refused("not in the bidding", Tester.STATE, () -> two.addPlot(0, 0, 0, 0, 0, 0));
        t.refused("the argument first", Tester.ARGUMENT, () -> two.addPlot(0, 0, 1, 0, 0, 0));
    }

    private static void add(TimberSale sale, int species, int volume) {
        int[] v = new int[6];
        v[species] = volume;
        sale.addPlot(v[0], v[1], v[2], v[3], v[4], v[5]);
    }

    private static void removePlot() {
        t.topic("promise 8");
        TimberSale sale = Tester.sale(THREE);
        t.refused("-1", Tester.INDEX, () -> sale.removePlot(-1));
        t.refused("3", Tester.INDEX, () -> sale.removePlot(3));
        t.due("the middle one", 2, () -> sale.removePlot(1));
        t.due("4 and 8 are left", 60, () -> sale.estimate(0, false));
        t.due("2 and 0 are left", 10, () -> sale.estimate(1, false));
        t.due("then the first one", 1, () -> sale.removePlot(0));
        t.due("8 is left", 80, () -> sale.estimate(0, false));
        t.due("0 is left", 0, () -> sale.estimate(1, false));
        t.due("the last one", 0, () -> sale.removePlot(0));
        t.refused("none is left", Tester.INDEX, () -> sale.removePlot(0));
        sale.addPlot(3, 0, 0, 0, 0, 0);
        sale.addPlot(5, 1, 0, 0, 0, 0);
        t.due("the last of two", 1, () -> sale.removePlot(1));
        t.due("3 is left", 30, () -> sale.estimate(0, false));
        TimberSale full = Tester.sale("sale 30 1 0 0 0 0 0;" + "species 0 1;".repeat(6));
        for (int plot = 1; plot <= 30; plot++) {
            full.addPlot(plot, 0, 0, 0, 0, plot);
        }
        t.due("the last of 30", 29, () -> full.removePlot(29));
        full.addPlot(30, 0, 0, 0, 0, 30);
        t.due("the first of 30", 29, () -> full.removePlot(0));
        // 30 * 464 / 29
        t.due("464 is left", 480, () -> full.estimate(0, false));
        t.due("464 of the last species", 480, () -> full.estimate(5, false));
        sale.advertise();
        t.refused("not in the bidding", Tester.STATE, () -> sale.removePlot(0));
        t.refused("the index is named first", Tester.INDEX, () -> sale.removePlot(1));
    }

    private static void estimate() {
        t.topic("promise 9");
        TimberSale sale = Tester.sale(THREE);
        fraction("species 0", 60, 1, () -> sale.estimate(0, false), () -> sale.estimate(0, true));
        fraction("species 1", 10, 1, () -> sale.estimate(1, false), () -> sale.estimate(1, true));
        fraction("all", 70, 1, () -> sale.estimate(ALL, false), () -> sale.estimate(ALL, true));
        sale.addPlot(4, 0, 0, 0, 0, 0);
        // 10 * 22 / 4, 10 * 3 / 4, 10 * 25 / 4
        fraction("species 0", 55, 1, () -> sale.estimate(0, false), () -> sale.estimate(0, true));
        fraction("species 1", 15, 2, () -> sale.estimate(1, false), () -> sale.estimate(1, true));
        fraction("all", 125, 2, () -> sale.estimate(ALL, false), () -> sale.estimate(ALL, true));
        t.refused("species 2", Tester.INDEX, () -> sale.estimate(2, false));
        t.refused("species -2", Tester.INDEX, () -> sale.estimate(-2, true));
        sale.advertise();
        t.due("in the bidding too", 55, () -> sale.estimate(0, false));
        TimberSale empty = Tester.sale("sale 7 1 0 0 0 0 0;species 0 1;");
        t.refused("no plots", Tester.STATE, () -> empty.estimate(0, false));
        t.refused("no plots, all", Tester.STATE, () -> empty.estimate(ALL, true));
        t.refused("the index is named first", Tester.INDEX, () -> empty.estimate(1, true));
        empty.addPlot(0, 0, 0, 0, 0, 0);
        fraction("0", 0, 1, () -> empty.estimate(0, false), () -> empty.estimate(0, true));
    }

    private static void squaredError() {
        t.topic("promise 10");
        TimberSale sale = Tester.sale(THREE);
        // 10 * 7 * (3 * 116 - 18 * 18) / 18, 10 * 7 * (3 * 5 - 9) / 18, 10 * 7 * (3 * 149 - 441) / 18
        fraction("species 0", 280, 3, () -> sale.squaredError(0, false), () -> sale.squaredError(0, true));
        fraction("species 1", 70, 3, () -> sale.squaredError(1, false), () -> sale.squaredError(1, true));
        fraction("all", 70, 3, () -> sale.squaredError(ALL, false), () -> sale.squaredError(ALL, true));
        t.refused("species 2", Tester.INDEX, () -> sale.squaredError(2, false));
        t.refused("species -2", Tester.INDEX, () -> sale.squaredError(-2, false));
        sale.removePlot(0);
        // 10 * 8 * (2 * 100 - 196) / 4
        fraction("two plots", 80, 1, () -> sale.squaredError(0, false), () -> sale.squaredError(0, true));
        sale.removePlot(0);
        t.refused("one plot", Tester.STATE, () -> sale.squaredError(0, false));
        t.refused("the index is named first", Tester.INDEX, () -> sale.squaredError(2, false));
        TimberSale whole = Tester.sale("sale 2 1 0 0 0 0 0;species 0 1;plot 1;plot 3;");
        fraction("the whole tract", 0, 1, () -> whole.squaredError(0, false), () -> whole.squaredError(0, true));
        TimberSale even = Tester.sale("sale 9 1 0 0 0 0 0;species 0 1;plot 3;plot 3;");
        fraction("the same plots", 0, 1, () -> even.squaredError(0, false), () -> even.squaredError(0, true));
    }

    private static void isAccurate() {
        t.topic("promise 11");
        TimberSale sale = Tester.sale(THREE);
        // 40,000 * 70 / 3 is between 13 * 13 * 70 * 70 and 14 * 14 * 70 * 70.
        t.due("all, 13", false, sale.isAccurate(ALL, 13));
        t.due("all, 14", true, sale.isAccurate(ALL, 14));
        t.due("all, 1", false, sale.isAccurate(ALL, 1));
        t.due("species 0, 20", false, sale.isAccurate(0, 20));
        t.due("species 1, 20", false, sale.isAccurate(1, 20));
        t.refused("species 2", Tester.INDEX, () -> sale.isAccurate(2, 0));
        t.refused("species -2", Tester.INDEX, () -> sale.isAccurate(-2, 5));
        t.refused("0 percent", Tester.ARGUMENT, () -> sale.isAccurate(0, 0));
        t.refused("21 percent", Tester.ARGUMENT, () -> sale.isAccurate(0, 21));
        sale.removePlot(0);
        sale.removePlot(0);
        t.refused("one plot", Tester.STATE, () -> sale.isAccurate(0, 20));
        t.refused("the argument is named first", Tester.ARGUMENT, () -> sale.isAccurate(0, 21));
        // 40,000 * 1 * 2 = 20 * 20 * 4 * 25 * 2 / 2: just accurate
        TimberSale edge = Tester.sale("sale 4 1 0 0 0 0 0;species 0 1;plot 2;plot 2;plot 1;");
        t.due("equal", true, edge.isAccurate(0, 20));
        t.due("just not", false, edge.isAccurate(0, 19));
        TimberSale nothing = Tester.sale("sale 4 1 0 0 0 0 0;species 0 1;plot 0;plot 0;");
        t.due("no timber", true, nothing.isAccurate(0, 1));
    }

    private static void neededPlots() {
        t.topic("promise 12");
        TimberSale sale = Tester.sale(THREE);
        // all: 720,000 * (10 - m) <= p * p * 8,820 * m
        t.due("all, 20", 2, () -> sale.neededPlots(ALL, 20));
        t.due("all, 10", 5, () -> sale.neededPlots(ALL, 10));
        t.due("all, 1", 10, () -> sale.neededPlots(ALL, 1));
        // species 0: 2,880,000 * (10 - m) <= p * p * 6,480 * m
        t.due("species 0, 20", 6, () -> sale.neededPlots(0, 20));
        t.refused("species 2", Tester.INDEX, () -> sale.neededPlots(2, 0));
        t.refused("species -2", Tester.INDEX, () -> sale.neededPlots(-2, 1));
        t.refused("0 percent", Tester.ARGUMENT, () -> sale.neededPlots(0, 0));
        t.refused("21 percent", Tester.ARGUMENT, () -> sale.neededPlots(0, 21));
        sale.removePlot(0);
        sale.removePlot(0);
        t.refused("one plot", Tester.STATE, () -> sale.neededPlots(0, 20));
        t.refused("the argument is named first", Tester.ARGUMENT, () -> sale.neededPlots(0, 21));
        TimberSale edge = Tester.sale("sale 4 1 0 0 0 0 0;species 0 1;plot 2;plot 2;plot 1;");
        t.due("equal", 3, () -> edge.neededPlots(0, 20));
        t.due("just not", 4, () -> edge.neededPlots(0, 19));
        // 80,000 * (81 - m) <= 2,025 * m; with 79 plots 160,000 is a little more than 159,975
        TimberSale near = Tester.sale("sale 81 1 0 0 0 0 0;species 0 1;plot 1;plot 0;");
        t.due("just not, with many plots", 80, () -> near.neededPlots(0, 5));
        TimberSale even = Tester.sale("sale 9 1 0 0 0 0 0;species 0 1;plot 3;plot 3;");
        t.due("the same plots", 1, () -> even.neededPlots(0, 1));
    }

    private static void mostInfluentialPlot() {
        t.topic("promise 13");
        TimberSale sale = Tester.sale(THREE);
        t.due("of several the lowest", 0, () -> sale.mostInfluentialPlot(0));
        t.due("all", 0, () -> sale.mostInfluentialPlot(ALL));
        sale.addPlot(9, 9, 0, 0, 0, 0);
        // Species 0 has 4, 6, 8, 9, four times these minus 27: -11, -3, 5, 9.
        t.due("the least plot", 0, () -> sale.mostInfluentialPlot(0));
        t.due("species 1", 3, () -> sale.mostInfluentialPlot(1));
        t.due("all together", 3, () -> sale.mostInfluentialPlot(ALL));
        sale.removePlot(0);
        t.due("the numbers go down", 2, () -> sale.mostInfluentialPlot(1));
        t.refused("species 2", Tester.INDEX, () -> sale.mostInfluentialPlot(2));
        t.refused("species -2", Tester.INDEX, () -> sale.mostInfluentialPlot(-2));
        sale.removePlot(0);
        sale.removePlot(0);
        t.refused("one plot", Tester.STATE, () -> sale.mostInfluentialPlot(0));
        t.refused("the index is named first", Tester.INDEX, () -> sale.mostInfluentialPlot(2));
        TimberSale two = Tester.sale("sale 9 1 0 0 0 0 0;species 0 1;plot 3;plot 5;");
        t.due("two plots", 0, () -> two.mostInfluentialPlot(0));
        TimberSale even = Tester.sale("sale 9 1 0 0 0 0 0;species 0 1;plot 3;plot 3;plot 3;");
        t.due("no influence", 0, () -> even.mostInfluentialPlot(0));
    }

    private static void greatestNumbers() {
        t.topic("the greatest numbers of a cruise");
        TimberSale sale = Tester.sale("sale 200 1 0 0 0 0 0;" + "species 0 1;".repeat(6));
        for (int plot = 0; plot < 30; plot++) {
            int volume = plot % 2 == 0 ? 500 : 0;
            sale.addPlot(volume, volume, volume, volume, volume, volume);
        }
        // T is 45,000 and Q 2,025,000,000.
        fraction("estimate", 300000, 1, () -> sale.estimate(ALL, false), () -> sale.estimate(ALL, true));
        fraction("error", 76500000000L, 29, () -> sale.squaredError(ALL, false), () -> sale.squaredError(ALL, true));
        t.due("accuracy", false, sale.isAccurate(ALL, 20));
        // 1,200,000 * (200 - m) <= p * p * 5,800 * m
        t.due("needed", 69, () -> sale.neededPlots(ALL, 20));
        t.due("needed for 1 percent", 200, () -> sale.neededPlots(ALL, 1));
        TimberSale full = Tester.sale("sale 200 1 0 0 0 0 0;" + "species 0 1;".repeat(6));
        for (int plot = 0; plot < 30; plot++) {
            full.addPlot(500, 500, 500, 500, 500, plot == 0 ? 499 : 500);
        }
        t.due("nearly even", true, full.isAccurate(ALL, 1));
        t.due("one is enough", 1, () -> full.neededPlots(ALL, 1));
        t.due("the one that differs", 0, () -> full.mostInfluentialPlot(ALL));
    }

    private static void fraction(String what, long above, long below, Tester.Call first, Tester.Call second) {
        t.due(what + ", numerator", above, first);
        t.due(what + ", denominator", below, second);
    }
}
