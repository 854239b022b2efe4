/** Every method in every phase: where it is refused, with what, and that a refused call changes nothing. */
public final class PhasesTest {
    private interface Use {
        void on(TimberSale sale);
    }

    private static final String ALL = "012345678";
    private static final String OPEN_BIDS = "234578";
    private static final String SINCE_CONTRACT = "345678";
    private static final Tester t = new Tester();
    private static final String[] untouched = new String[Stages.LAST + 1];

    public static void main(String[] args) {
        for (int phase = 0; phase <= Stages.LAST; phase++) {
            int at = phase;
            t.topic("the stages");
            t.due("phase " + phase, phase, () -> Stages.at(at).phase());
            untouched[phase] = Watch.aftermath(() -> Stages.at(at));
        }
        setup();
        cruise();
        bidding();
        contract();
        money();
        resale();
        t.end();
    }

    private static void setup() {
        only("append, promise 2", ALL, sale -> sale.append(0, 0, 0, 0, 0));
        only("load, promise 3", ALL, sale -> sale.load(20));
        only("load of an error, promise 3", ALL, sale -> sale.load(0));
        only("errorPosition, promise 4", ALL, TimberSale::errorPosition);
        only("phase, promise 5", ALL, TimberSale::phase);
    }

    private static void cruise() {
        only("plotCount, promise 6", ALL, TimberSale::plotCount);
        only("addPlot, promise 7", "0", sale -> sale.addPlot(1, 1, 0, 0, 0, 0));
        only("removePlot, promise 8", "0", sale -> sale.removePlot(0));
        only("estimate, promise 9", ALL, sale -> sale.estimate(0, false));
        only("squaredError, promise 10", ALL, sale -> sale.squaredError(0, false));
        only("isAccurate, promise 11", ALL, sale -> sale.isAccurate(0, 5));
        only("neededPlots, promise 12", ALL, sale -> sale.neededPlots(0, 5));
        only("mostInfluentialPlot, promise 13", ALL, sale -> sale.mostInfluentialPlot(0));
    }

    private static void bidding() {
        only("advertise, promise 14", "05", TimberSale::advertise);
        only("volume, promise 15", "12345678", sale -> sale.volume(0));
        only("offer, promise 16", "16", sale -> sale.offer(4, 0, 5));
        only("setDeposit, promise 17", "16", sale -> sale.setDeposit(4, 5));
        only("seal, promise 18", "16", sale -> sale.seal(4));
        only("withdraw, promise 19", "16", sale -> sale.withdraw(7));
        only("open, promise 20", "16", TimberSale::open);
        only("problem, promise 21", OPEN_BIDS, sale -> sale.problem(0));
        only("value, promise 22", OPEN_BIDS, sale -> sale.value(0));
        only("rank, promise 23", OPEN_BIDS, sale -> sale.rank(0));
        only("turningPoint, promise 24", OPEN_BIDS, sale -> sale.turningPoint(1));
        only("leastWinningRate, promise 25", OPEN_BIDS, sale -> sale.leastWinningRate(3, 0));
        only("award, promise 26", "27", TimberSale::award);
    }

    private static void contract() {
        only("setIndex, promise 27", "3", sale -> sale.setIndex(0, 0, 200));
        only("rate, promise 28", SINCE_CONTRACT, sale -> sale.rate(0, 0));
        only("indexFor, promise 29", SINCE_CONTRACT, sale -> sale.indexFor(0, 101));
        only("scale, promise 30", "3", sale -> sale.scale(0, 10, 0));
        // Before the contract there are no loads, and the missing load is named first.
        table("check, promise 31", "iiiasssss", sale -> sale.check(0, 10, 0));
        table("voidLoad, promise 32", "iiiasssss", sale -> sale.voidLoad(2));
        table("worstCheck, promise 33", "nnnaaaaaa", TimberSale::worstCheck);
        only("scaled, promise 34", SINCE_CONTRACT, sale -> sale.scaled(0, 0, 36));
        only("cutShare, promise 35", SINCE_CONTRACT, sale -> sale.cutShare(false));
        table("net, promise 36", "iiiaaaaaa", sale -> sale.net(3));
        only("factor, promise 37", ALL, sale -> sale.factor(false));
        only("month, promise 38", ALL, TimberSale::month);
    }

    private static void money() {
        only("endMonth, promise 39", "3", TimberSale::endMonth);
        only("charge, promise 40", SINCE_CONTRACT, sale -> sale.charge(0));
        table("charge of month 1, promise 40", "iiiaaaaaa", sale -> sale.charge(1));
        only("pay, promise 41", "34", sale -> sale.pay(10));
        only("debt, promise 42", ALL, TimberSale::debt);
        only("projectedDebt, promise 43", "3", sale -> sale.projectedDebt(1));
        only("adjustment, promise 44", ALL, TimberSale::adjustment);
        only("close, promise 45", "3", TimberSale::close);
        only("remaining, promise 46", SINCE_CONTRACT, sale -> sale.remaining(0));
    }

    private static void resale() {
        only("declareDefault, promise 47", "3", TimberSale::declareDefault);
        only("damages, promise 48", "8", TimberSale::damages);
        only("undo, promise 49", ALL, TimberSale::undo);
    }

    /** The method answers in these phases and throws IllegalStateException in all others. */
    private static void only(String method, String phases, Use use) {
        StringBuilder row = new StringBuilder();
        for (int phase = 0; phase <= Stages.LAST; phase++) {
            row.append(phases.indexOf('0' + phase) >= 0 ? 'a' : 's');
        }
        table(method, row.toString(), use);
    }

    /** A sign for each phase: a answers, s state, i index, n no such element. */
    private static void table(String method, String row, Use use) {
        t.topic(method);
        for (int phase = 0; phase <= Stages.LAST; phase++) {
            TimberSale sale = Stages.at(phase);
            String where = Stages.NAMES[phase];
            if (row.charAt(phase) == 'a') {
                t.due("answers in " + where, 0, () -> {
                    use.on(sale);
                    return 0;
                });
            } else {
                t.refused("in " + where, thrown(row.charAt(phase)), () -> use.on(sale));
                leavesAll(where, phase, use);
            }
        }
    }

    private static Class<? extends RuntimeException> thrown(char sign) {
        switch (sign) {
            case 'i': return Tester.INDEX;
            case 'n': return Tester.ELEMENT;
            default: return Tester.STATE;
        }
    }

    private static void leavesAll(String where, int phase, Use use) {
        String after = Watch.aftermath(() -> {
            TimberSale sale = Stages.at(phase);
            Watch.answer(() -> {
                use.on(sale);
                return 0;
            });
            return sale;
        });
        t.due("a refused call changes nothing in " + where, true, untouched[phase].equals(after));
    }
}
