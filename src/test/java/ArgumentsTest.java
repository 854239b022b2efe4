/**
 * Every argument at its edges: the last values that are taken, the first ones that are refused, and
 * the greatest and least of all; in every phase, because a wrong argument is named before the phase.
 */
public final class ArgumentsTest {
    private interface Use {
        void on(TimberSale sale, int number);
    }

    private static final int NONE = TimberSale.NONE;
    private static final Class<? extends RuntimeException> INDEX = Tester.INDEX;
    private static final Class<? extends RuntimeException> ARGUMENT = Tester.ARGUMENT;
    private static final Tester t = new Tester();
    private static final String[] untouched = new String[Stages.LAST + 1];

    public static void main(String[] args) {
        for (int phase = 0; phase <= Stages.LAST; phase++) {
            int at = phase;
            untouched[phase] = Watch.aftermath(() -> Stages.at(at));
        }
        setupAndCruise();
        bidding();
        contract();
        money();
        indexBeforeArgument();
        speciesOfOtherSales();
        t.end();
    }

    private static void setupAndCruise() {
        range("load, length", 0, 0, 20, ARGUMENT, TimberSale::load);
        range("addPlot, a", 0, 0, 500, ARGUMENT, (s, n) -> s.addPlot(n, 0, 0, 0, 0, 0));
        range("addPlot, b", 0, 0, 500, ARGUMENT, (s, n) -> s.addPlot(0, n, 0, 0, 0, 0));
        range("addPlot, c, no species", 0, 0, 0, ARGUMENT, (s, n) -> s.addPlot(0, 0, n, 0, 0, 0));
        range("addPlot, d, no species", 0, 0, 0, ARGUMENT, (s, n) -> s.addPlot(0, 0, 0, n, 0, 0));
        range("addPlot, e, no species", 0, 0, 0, ARGUMENT, (s, n) -> s.addPlot(0, 0, 0, 0, n, 0));
        range("addPlot, f, no species", 0, 0, 0, ARGUMENT, (s, n) -> s.addPlot(0, 0, 0, 0, 0, n));
        range("removePlot, plot", 0, 0, 2, INDEX, TimberSale::removePlot);
        range("estimate, species", 0, NONE, 1, INDEX, (s, n) -> s.estimate(n, true));
        range("squaredError, species", 0, NONE, 1, INDEX, (s, n) -> s.squaredError(n, true));
        range("isAccurate, species", 0, NONE, 1, INDEX, (s, n) -> s.isAccurate(n, 5));
        range("isAccurate, percent", 0, 1, 20, ARGUMENT, (s, n) -> s.isAccurate(0, n));
        range("neededPlots, species", 0, NONE, 1, INDEX, (s, n) -> s.neededPlots(n, 5));
        range("neededPlots, percent", 0, 1, 20, ARGUMENT, (s, n) -> s.neededPlots(0, n));
        range("mostInfluentialPlot, species", 0, NONE, 1, INDEX, TimberSale::mostInfluentialPlot);
    }

    private static void bidding() {
        for (int phase = 1; phase <= 6; phase += 5) {
            range("offer, bidder", phase, 4, 6, INDEX, 0, 7, (s, n) -> s.offer(n, 0, 1));
            range("offer, species", phase, 0, 1, INDEX, (s, n) -> s.offer(4, n, 1));
            range("offer, rate", phase, 0, 1000000, ARGUMENT, (s, n) -> s.offer(4, 0, n));
            range("setDeposit, bidder", phase, 4, 6, INDEX, 0, 7, (s, n) -> s.setDeposit(n, 1));
            range("setDeposit, amount", phase, 0, 1000000000, ARGUMENT, (s, n) -> s.setDeposit(4, n));
            range("seal, bidder", phase, 4, 6, INDEX, 0, 7, TimberSale::seal);
            range("withdraw, bidder", phase, 7, 7, INDEX, 0, 7, TimberSale::withdraw);
        }
        range("volume, species", 1, 0, 1, INDEX, TimberSale::volume);
        for (int phase = 2; phase <= 8; phase += 5) {
            range("problem, bidder", phase, 0, 7, INDEX, TimberSale::problem);
            range("value, bidder", phase, 0, 7, INDEX, TimberSale::value);
            range("rank, bidder", phase, 0, 7, INDEX, TimberSale::rank);
            range("turningPoint, species", phase, 1, 1, INDEX, 0, 1, TimberSale::turningPoint);
            range("leastWinningRate, bidder", phase, 3, 3, INDEX, 0, 7, (s, n) -> s.leastWinningRate(n, 0));
            range("leastWinningRate, species", phase, 0, 1, INDEX, (s, n) -> s.leastWinningRate(3, n));
        }
    }

    private static void contract() {
        range("setIndex, quarter", 3, 0, 11, INDEX, (s, n) -> s.setIndex(n, 0, 1));
        range("setIndex, species", 3, 0, 1, INDEX, (s, n) -> s.setIndex(0, n, 1));
        range("setIndex, index", 3, 1, 10000, ARGUMENT, (s, n) -> s.setIndex(0, 0, n));
        range("rate, species", 3, 0, 1, INDEX, (s, n) -> s.rate(n, 0));
        range("rate, quarter", 3, 0, 11, INDEX, (s, n) -> s.rate(0, n));
        range("indexFor, species", 3, 0, 1, INDEX, (s, n) -> s.indexFor(n, 1));
        // Rates above 5050 need an index above 10,000: these are no wrong arguments.
        range("indexFor, rate", 3, 0, 5050, ARGUMENT, 0, 1000000, (s, n) -> s.indexFor(0, n));
        range("scale, species", 3, 0, 1, INDEX, (s, n) -> s.scale(n, 1, 0));
        range("scale, gross", 3, 1, 10000, ARGUMENT, (s, n) -> s.scale(0, n, 0));
        range("scale, defect", 3, 0, 100, ARGUMENT, (s, n) -> s.scale(0, 1, n));
        range("check, load", 3, 2, 3, INDEX, 0, 3, (s, n) -> s.check(n, 1, 0));
        since(3, "check, gross", 1, 10000, (s, n) -> s.check(0, n, 0));
        since(3, "check, defect", 0, 100, (s, n) -> s.check(0, 1, n));
        range("voidLoad, load", 3, 2, 3, INDEX, 0, 3, TimberSale::voidLoad);
        range("scaled, species", 3, NONE, 1, INDEX, (s, n) -> s.scaled(n, 0, 36));
        range("scaled, from", 3, 0, 36, ARGUMENT, (s, n) -> s.scaled(0, n, 36));
        range("scaled, to", 3, 0, 36, ARGUMENT, (s, n) -> s.scaled(0, 0, n));
        range("scaled, to, not before from", 3, 5, 36, ARGUMENT, (s, n) -> s.scaled(0, 5, n));
        range("scaled, to, from 36", 3, 36, 36, ARGUMENT, (s, n) -> s.scaled(0, 36, n));
        range("net, load", 3, 0, 3, INDEX, TimberSale::net);
    }

    private static void money() {
        range("charge, month", 3, 0, 1, INDEX, TimberSale::charge);
        range("pay, amount", 3, 1, 1000000000, ARGUMENT, TimberSale::pay);
        range("pay, amount, closed", 4, 1, 1000000000, ARGUMENT, TimberSale::pay);
        range("projectedDebt, months", 3, 1, 12, ARGUMENT, TimberSale::projectedDebt);
        range("remaining, species", 3, 0, 1, INDEX, TimberSale::remaining);
    }

    private static void indexBeforeArgument() {
        everywhere("isAccurate", INDEX, (s, n) -> s.isAccurate(2, 0));
        everywhere("neededPlots", INDEX, (s, n) -> s.neededPlots(-2, 21));
        everywhere("offer, bidder and rate", INDEX, (s, n) -> s.offer(8, 0, -1));
        everywhere("offer, species and rate", INDEX, (s, n) -> s.offer(0, 2, 1000001));
        everywhere("setDeposit", INDEX, (s, n) -> s.setDeposit(-1, -1));
        everywhere("setIndex, quarter and index", INDEX, (s, n) -> s.setIndex(12, 0, 0));
        everywhere("setIndex, species and index", INDEX, (s, n) -> s.setIndex(0, -1, 10001));
        everywhere("indexFor", INDEX, (s, n) -> s.indexFor(2, -1));
        everywhere("scale, species and gross", INDEX, (s, n) -> s.scale(2, 0, 0));
        everywhere("scale, species and defect", INDEX, (s, n) -> s.scale(-1, 1, 101));
        everywhere("check, load and gross", INDEX, (s, n) -> s.check(4, 0, 0));
        everywhere("check, load and defect", INDEX, (s, n) -> s.check(-1, 1, -1));
        everywhere("scaled", INDEX, (s, n) -> s.scaled(2, 5, 4));
        // A load that has been checked: the wrong gross volume is named before the state.
        t.topic("argument before state");
        t.refused("check twice", ARGUMENT, () -> Stages.at(3).check(1, 0, 0));
        t.refused("offer for a sealed bid", ARGUMENT, () -> Stages.at(1).offer(7, 0, -1));
        t.refused("deposit of a sealed bid", ARGUMENT, () -> Stages.at(1).setDeposit(7, -1));
    }

    /** How many species there are decides which numbers exist: none, one, six. */
    private static void speciesOfOtherSales() {
        for (int kinds = 0; kinds <= 6; kinds += kinds == 0 ? 1 : 5) {
            String text = "sale 9 1 0 0 0 0 0;" + "species 0 1;".repeat(kinds)
                    + ("plot" + " 3".repeat(kinds) + ";").repeat(2);
            TimberSale cruise = Tester.sale(text);
            t.topic("cruise with " + kinds + " species");
            t.due("all species", 27L * kinds, () -> cruise.estimate(NONE, false));
            taken("species", -1, kinds - 1, n -> cruise.estimate(n, false));
            outside("estimate", -2, kinds, n -> cruise.estimate(n, false));
            outside("squaredError", -2, kinds, n -> cruise.squaredError(n, false));
            outside("isAccurate", -2, kinds, n -> cruise.isAccurate(n, 1));
            outside("neededPlots", -2, kinds, n -> cruise.neededPlots(n, 1));
            outside("mostInfluentialPlot", -2, kinds, n -> cruise.mostInfluentialPlot(n));
            outside("volume", -1, kinds, n -> cruise.volume(n));
            if (kinds > 0) {
                contractOf(kinds, cruise);
            }
        }
    }

    private static void contractOf(int kinds, TimberSale sale) {
        t.topic("contract with " + kinds + " species");
        sale.advertise();
        taken("volume", 0, kinds - 1, n -> sale.volume(n));
        taken("offer", 0, kinds - 1, n -> sale.offer(0, n, 5));
        outside("offer", -1, kinds, n -> sale.offer(0, n, 5));
        sale.seal(0);
        sale.open();
        outside("turningPoint", -1, kinds, n -> sale.turningPoint(n));
        taken("leastWinningRate", 0, kinds - 1, n -> sale.leastWinningRate(0, n));
        outside("leastWinningRate", -1, kinds, n -> sale.leastWinningRate(0, n));
        sale.award();
        taken("setIndex", 0, kinds - 1, n -> sale.setIndex(0, n, 5));
        outside("setIndex", -1, kinds, n -> sale.setIndex(0, n, 5));
        taken("rate", 0, kinds - 1, n -> sale.rate(n, 0));
        outside("rate", -1, kinds, n -> sale.rate(n, 0));
        taken("indexFor", 0, kinds - 1, n -> sale.indexFor(n, 0));
        outside("indexFor", -1, kinds, n -> sale.indexFor(n, 0));
        taken("scale", 0, kinds - 1, n -> sale.scale(n, 1, 0));
        outside("scale", -1, kinds, n -> sale.scale(n, 1, 0));
        taken("scaled", -1, kinds - 1, n -> sale.scaled(n, 0, 1));
        outside("scaled", -2, kinds, n -> sale.scaled(n, 0, 1));
        taken("remaining", 0, kinds - 1, n -> sale.remaining(n));
        outside("remaining", -1, kinds, n -> sale.remaining(n));
    }

    private interface OfNumber {
        void use(int number);
    }

    private static void taken(String what, int least, int greatest, OfNumber call) {
        for (int number = least; number <= greatest; number++) {
            int which = number;
            t.due(what + " takes " + number, 0, () -> {
                call.use(which);
                return 0;
            });
        }
    }

    private static void outside(String what, int below, int above, OfNumber call) {
        for (int number : new int[] {below, above, Integer.MIN_VALUE, Integer.MAX_VALUE}) {
            t.refused(what + " refuses " + number, INDEX, () -> call.use(number));
        }
    }

    // ---- ranges

    private static void range(String what, int phase, int least, int greatest,
            Class<? extends RuntimeException> thrown, Use use) {
        range(what, phase, least, greatest, thrown, least, greatest, use);
    }

    /** The last numbers that this stage takes may lie inside of what is a good argument. */
    private static void range(String what, int phase, int firstTaken, int lastTaken,
            Class<? extends RuntimeException> thrown, int least, int greatest, Use use) {
        takes(what, phase, firstTaken, use);
        takes(what, phase, lastTaken, use);
        for (int number : new int[] {least - 1, greatest + 1}) {
            everywhere(what + " " + number, thrown, (sale, ignored) -> use.on(sale, number));
        }
        farOutside(what, phase, thrown, use);
    }

    /** Loads exist since the contract; before, it is the load that is missing. */
    private static void since(int phase, String what, int least, int greatest, Use use) {
        takes(what, phase, least, use);
        takes(what, phase, greatest, use);
        for (int number : new int[] {least - 1, greatest + 1}) {
            for (int at = 0; at <= Stages.LAST; at++) {
                refused(what + " " + number, at, at < phase ? INDEX : ARGUMENT,
                        (sale, ignored) -> use.on(sale, number));
            }
        }
        farOutside(what, phase, ARGUMENT, use);
    }

    private static void farOutside(String what, int phase, Class<? extends RuntimeException> thrown, Use use) {
        TimberSale sale = Stages.at(phase);
        t.topic(what);
        t.refused("the least int", thrown, () -> use.on(sale, Integer.MIN_VALUE));
        t.refused("the greatest int", thrown, () -> use.on(sale, Integer.MAX_VALUE));
    }

    private static void takes(String what, int phase, int number, Use use) {
        t.topic(what);
        TimberSale sale = Stages.at(phase);
        t.due(number + " is taken in " + Stages.NAMES[phase], 0, () -> {
            use.on(sale, number);
            return 0;
        });
    }

    private static void everywhere(String what, Class<? extends RuntimeException> thrown, Use use) {
        for (int phase = 0; phase <= Stages.LAST; phase++) {
            refused(what, phase, thrown, use);
        }
    }

    private static void refused(String what, int phase, Class<? extends RuntimeException> thrown, Use use) {
        t.topic(what);
        TimberSale refusing = Stages.at(phase);
        t.refused("in " + Stages.NAMES[phase], thrown, () -> use.on(refusing, 0));
        String after = Watch.aftermath(() -> {
            TimberSale sale = Stages.at(phase);
            Watch.answer(() -> {
                use.on(sale, 0);
                return 0;
            });
            return sale;
        });
        t.due("changes nothing in " + Stages.NAMES[phase], true, untouched[phase].equals(after));
    }
}
