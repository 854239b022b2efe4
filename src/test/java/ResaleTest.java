import java.util.ArrayList;
import java.util.Arrays;
import java.util.List;

/** Promises 47 to 49: default, damages and undo; and the second bidding of promises 14 to 26. */
public final class ResaleTest {
    private interface Use {
        void on(TimberSale sale);
    }

    private static final int ALL = TimberSale.NONE;
    private static final String TWO = "sale 10 3 10 50 5 10 5000;species 100 100;species 50 200;"
            + "plot 4 2;plot 6 1;plot 8 0;";
    private static final Use[] WHOLE_SALE = {TimberSale::advertise, ResaleTest::bidTwice, TimberSale::open,
        TimberSale::award, ResaleTest::work, TimberSale::endMonth, TimberSale::declareDefault,
        TimberSale::advertise, ResaleTest::bidAgain, TimberSale::open, TimberSale::award};
    private static final Tester t = new Tester();

    public static void main(String[] args) {
        defaultByDebt();
        defaultByTerm();
        declareDefault();
        secondBidding();
        firstContractStays();
        damages();
        damagesInALaterQuarter();
        sixSpecies();
        nothingIsLeftOfAnEarlierSale();
        undoOfEachChange();
        undoInTheSecondSale();
        undoOfLaterLoads();
        undoDepth();
        whatIsNoChange();
        t.end();
    }

    private static TimberSale contract() {
        TimberSale sale = new TimberSale();
        makeContract(sale);
        return sale;
    }

    private static void makeContract(TimberSale sale) {
        Tester.load(sale, TWO);
        sale.advertise();
        Tester.bid(sale, 7, 690, 100, 90);
        Tester.bid(sale, 3, 650, 100, 50);
        sale.open();
        sale.award();
    }

    private static TimberSale defaulted() {
        TimberSale sale = new TimberSale();
        makeDefault(sale);
        return sale;
    }

    /** A debt of 1050 in month 1; 49 and 10 cubic metres remain. */
    private static void makeDefault(TimberSale sale) {
        makeContract(sale);
        sale.scale(0, 105, 0);
        sale.endMonth();
        sale.setIndex(0, 0, 103);
        sale.declareDefault();
    }

    private static TimberSale resold() {
        TimberSale sale = defaulted();
        sale.advertise();
        Tester.bid(sale, 0, 540, 100, 50);
        sale.open();
        sale.award();
        return sale;
    }

    private static void defaultByDebt() {
        t.topic("promise 47, debt");
        TimberSale equal = contract();
        equal.scale(0, 69, 0);
        equal.endMonth();
        t.due("debt", 690, equal::debt);
        t.refused("as much as the deposit", Tester.STATE, equal::declareDefault);
        t.due("the phase stays", 3, equal::phase);
        TimberSale more = contract();
        more.scale(1, 77, 0);
        more.endMonth();
        t.due("debt", 693, more::debt);
        t.due("more than the deposit", 62, more::declareDefault);
        TimberSale nothing = contract();
        nothing.scale(0, 10000, 0);
        nothing.scale(1, 10000, 0);
        nothing.endMonth();
        t.due("nothing needs to remain", 0, nothing::declareDefault);
    }

    private static void defaultByTerm() {
        t.topic("promise 47, term");
        TimberSale sale = contract();
        t.refused("month 0", Tester.STATE, sale::declareDefault);
        sale.endMonth();
        sale.endMonth();
        t.refused("month 2", Tester.STATE, sale::declareDefault);
        sale.endMonth();
        t.due("month 3, the term", 70, sale::declareDefault);
        TimberSale late = contract();
        for (int month = 0; month < 5; month++) {
            late.endMonth();
        }
        t.due("later", 70, late::declareDefault);
        TimberSale cut = contract();
        cut.scale(0, 591, 0);
        cut.scale(1, 100, 0);
        cut.endMonth();
        cut.pay(1000000);
        cut.endMonth();
        cut.endMonth();
        t.refused("nothing remains", Tester.STATE, cut::declareDefault);
        TimberSale one = contract();
        one.scale(0, 600, 0);
        one.scale(1, 90, 0);
        one.endMonth();
        one.pay(1000000);
        one.endMonth();
        one.endMonth();
        t.due("one cubic metre of one species", 1, one::declareDefault);
    }

    private static void declareDefault() {
        t.topic("promise 47, phases");
        TimberSale sale = defaulted();
        t.due("phase", 5, sale::phase);
        t.refused("twice", Tester.STATE, sale::declareDefault);
        t.refused("in the cruise", Tester.STATE, () -> Tester.sale(TWO).declareDefault());
        TimberSale closed = contract();
        closed.scale(0, 1000, 0);
        closed.close();
        t.refused("closed", Tester.STATE, closed::declareDefault);
        t.refused("no load", Tester.STATE, () -> sale.scale(0, 1, 0));
        t.refused("no check", Tester.STATE, () -> sale.check(0, 1, 0));
        t.refused("no void load", Tester.STATE, () -> sale.voidLoad(0));
        t.refused("no index", Tester.STATE, () -> sale.setIndex(0, 0, 1));
        t.refused("no payment", Tester.STATE, () -> sale.pay(1));
        t.refused("no end of a month", Tester.STATE, sale::endMonth);
        t.refused("no closing", Tester.STATE, sale::close);
        t.refused("no projection", Tester.STATE, () -> sale.projectedDebt(1));
        t.refused("no bid", Tester.STATE, () -> sale.offer(0, 0, 1));
        t.refused("no opening", Tester.STATE, sale::open);
        t.refused("no award", Tester.STATE, sale::award);
        t.refused("no damages", Tester.STATE, sale::damages);
        t.refused("no plot", Tester.STATE, () -> sale.addPlot(0, 0, 0, 0, 0, 0));
    }

    private static void secondBidding() {
        t.topic("the second bidding");
        TimberSale sale = defaulted();
        t.due("the volume of the first one in phase 5", 60, () -> sale.volume(0));
        t.due("the first bids in phase 5", 1, () -> sale.rank(7));
        t.due("no problem of the defaulted bidder yet", 0, () -> sale.problem(7));
        t.due("remaining volumes", 59, sale::advertise);
        t.due("phase", 6, sale::phase);
        t.due("volume of species 0", 49, () -> sale.volume(0));
        t.due("volume of species 1", 10, () -> sale.volume(1));
        t.refused("the bids are not open", Tester.STATE, () -> sale.problem(0));
        t.refused("nor their values", Tester.STATE, () -> sale.value(0));
        t.refused("nor their ranks", Tester.STATE, () -> sale.rank(0));
        t.refused("nor the turning point", Tester.STATE, () -> sale.turningPoint(0));
        t.refused("nor the least rate", Tester.STATE, () -> sale.leastWinningRate(0, 0));
        t.refused("not sealed", Tester.STATE, () -> sale.withdraw(7));
        t.due("the bids are deleted: rate", 0, () -> sale.offer(7, 0, 3000));
        t.due("the bids are deleted: deposit", 0, () -> sale.setDeposit(3, 0));
        sale.offer(7, 1, 3000);
        sale.setDeposit(7, 1000000);
        t.due("the sealings begin with 1", 1, () -> sale.seal(7));
        Tester.bid(sale, 0, 540, 100, 50);
        Tester.bid(sale, 1, 541, 100, 51);
        Tester.bid(sale, 2, 540, 100, 51);
        t.due("valid bids", 2, sale::open);
        t.due("phase", 7, sale::phase);
        t.due("the defaulted bidder", 4, () -> sale.problem(7));
        t.due("has no rank", 0, () -> sale.rank(7));
        t.refused("and no winning rate", Tester.ELEMENT, () -> sale.leastWinningRate(7, 0));
        t.due("a low deposit", 3, () -> sale.problem(2));
        t.due("value with the second volumes", 5400, () -> sale.value(0));
        t.due("rank", 1, () -> sale.rank(1));
        t.due("rank", 2, () -> sale.rank(0));
        t.due("least rate", 51, () -> sale.leastWinningRate(1, 1));
        // 10 * 9 / 100 is nothing, and 0 was sealed before 1.
        t.due("turning point: without species 1", -91, () -> sale.turningPoint(1));
        t.due("award", 1, sale::award);
        t.due("phase", 8, sale::phase);
        t.due("the bids stay open", 1, () -> sale.rank(1));
        t.refused("no second award", Tester.STATE, sale::award);
        t.refused("no third bidding", Tester.STATE, sale::advertise);
        t.refused("no second default", Tester.STATE, sale::declareDefault);
        TimberSale low = defaulted();
        low.advertise();
        Tester.bid(low, 7, 0, 3000, 3000);
        low.open();
        t.due("a low deposit comes before the default", 3, () -> low.problem(7));
        t.refused("no valid bid", Tester.ELEMENT, low::award);
        t.due("the phase stays", 7, low::phase);
    }

    private static void firstContractStays() {
        t.topic("the first contract after the resale");
        TimberSale sale = resold();
        t.due("volume of the second bidding", 49, () -> sale.volume(0));
        t.due("remaining", 49, () -> sale.remaining(0));
        t.due("remaining of species 1", 10, () -> sale.remaining(1));
        t.due("rate", 101, () -> sale.rate(0, 0));
        t.due("rate of species 1", 90, () -> sale.rate(1, 0));
        t.due("index for it", 200, () -> sale.indexFor(1, 90));
        t.due("scaled", 105, () -> sale.scaled(ALL, 0, 36));
        t.due("cut share above", 3, () -> sale.cutShare(false));
        t.due("cut share below", 20, () -> sale.cutShare(true));
        t.due("charge", 1060, () -> sale.charge(0));
        t.due("ended months alone are adjusted", 10, sale::adjustment);
        t.due("debt", 1050, sale::debt);
        t.due("month", 1, sale::month);
        t.due("net", 105, () -> sale.net(0));
        TimberSale loaded = contract();
        loaded.scale(0, 100, 0);
        loaded.endMonth();
        loaded.scale(0, 50, 0);
        loaded.declareDefault();
        t.due("the present month has not ended", 0, loaded::adjustment);
        t.due("its charge is known", 500, () -> loaded.charge(1));
    }

    private static void damages() {
        t.topic("promise 48");
        // 49 * 101 + 10 * 90 - 5400 + 5000 + 1050 - 690
        t.due("damages", 5809, () -> resold().damages());
        TimberSale sale = defaulted();
        sale.advertise();
        Tester.bid(sale, 0, 1000000, 1000, 50);
        t.refused("second bidding", Tester.STATE, sale::damages);
        sale.open();
        t.refused("second opened", Tester.STATE, sale::damages);
        sale.award();
        // the second bid is worth 49500
        t.due("they may be negative", -38291, sale::damages);
        t.refused("contract", Tester.STATE, () -> contract().damages());
    }

    private static void damagesInALaterQuarter() {
        TimberSale sale = contract();
        sale.setIndex(1, 0, 300);
        sale.setIndex(2, 0, 100);
        for (int month = 0; month < 5; month++) {
            sale.endMonth();
        }
        sale.declareDefault();
        sale.advertise();
        Tester.bid(sale, 4, 650, 100, 50);
        sale.open();
        sale.award();
        // 60 * 200 + 10 * 90 - 6500 + 5000 + 0 - 690
        t.due("the quarter of the present month", 10710, sale::damages);
    }

    private static void sixSpecies() {
        t.topic("six species");
        TimberSale sale = Tester.sale("sale 2 1 0 100 0 0 0;" + "species 1 1;".repeat(6) + "plot 1 2 3 4 5 6;");
        t.due("volumes", 42, sale::advertise);
        Tester.bid(sale, 0, 0, 10, 20, 30, 40, 50, 60);
        sale.open();
        t.due("value", 1820, () -> sale.value(0));
        t.due("least rate", 1, () -> sale.leastWinningRate(0, 5));
        sale.award();
        for (int species = 0; species < 6; species++) {
            sale.scale(species, 10, 0);
            sale.setIndex(0, species, 1 + species);
        }
        // the rates are 10, 21, 32, 43, 54 and 65
        t.due("charge", 225, () -> sale.charge(0));
        sale.endMonth();
        t.due("remaining", 11, () -> sale.remaining(5));
        t.due("default", 36, sale::declareDefault);
        t.due("second volumes", 36, sale::advertise);
        Tester.bid(sale, 1, 0, 1, 1, 1, 1, 1, 1);
        sale.open();
        sale.award();
        // 10 + 3 * 21 + 5 * 32 + 7 * 43 + 9 * 54 + 11 * 65 - 36 + 225
        t.due("damages", 1924, sale::damages);
    }

    /** What an object did before must not show in a sale that it reads later. */
    private static void nothingIsLeftOfAnEarlierSale() {
        t.topic("a text after a whole sale");
        for (int steps = 0; steps <= WHOLE_SALE.length; steps++) {
            int taken = steps;
            String due = Watch.everything(() -> after(new TimberSale(), taken));
            t.due("the next text, step " + steps, true, due.equals(Watch.everything(() -> after(used(), taken))));
            // The room of a sale is used again with the next text but one.
            t.due("the second text, step " + steps, true, due.equals(Watch.everything(
                    () -> after(after(used(), WHOLE_SALE.length), taken))));
            t.due("the third text, step " + steps, true, due.equals(Watch.everything(
                    () -> after(after(after(used(), WHOLE_SALE.length), WHOLE_SALE.length), taken))));
            t.due("a text after an error, step " + steps, true, due.equals(Watch.everything(
                    () -> after(afterAnError(used()), taken))));
        }
    }

    /** A sale of six species that has gone through all phases but 4. */
    private static TimberSale used() {
        TimberSale used = Tester.sale("sale 9 1 0 100 0 50 0;" + "species 0 1;".repeat(6)
                + "plot 1 2 3 4 5 6;plot 7 6 5 4 3 2;");
        used.advertise();
        Tester.bid(used, 0, 7, 10, 20, 30, 40, 50, 60);
        Tester.bid(used, 1, 7, 10, 20, 30, 40, 50, 50);
        used.open();
        used.award();
        for (int species = 0; species < 6; species++) {
            used.scale(species, 10, 0);
            used.check(species, 20, 0);
            used.setIndex(species, species, 100);
            used.endMonth();
        }
        used.declareDefault();
        used.advertise();
        Tester.bid(used, 1, 7, 1, 1, 1, 1, 1, 1);
        Tester.bid(used, 0, 7, 1, 1, 1, 1, 1, 2);
        used.open();
        used.award();
        return used;
    }

    private static TimberSale afterAnError(TimberSale sale) {
        Tester.load(sale, "sale 9 1 0 100 0 50 0;" + "species 0 1;".repeat(6) + "plot 1 2 3 4 5 6;");
        Tester.load(sale, "sale 9 1 0 100 0 50 0;" + "plot;".repeat(8) + "junk");
        return sale;
    }

    /** The sale after the text TWO and so many steps of WHOLE_SALE. */
    private static TimberSale after(TimberSale sale, int steps) {
        Tester.load(sale, TWO);
        for (int step = 0; step < steps; step++) {
            WHOLE_SALE[step].on(sale);
        }
        return sale;
    }

    private static void bidTwice(TimberSale sale) {
        Tester.bid(sale, 0, 690, 100, 90);
        Tester.bid(sale, 3, 650, 100, 50);
    }

    private static void work(TimberSale sale) {
        sale.scale(0, 105, 0);
        sale.scale(1, 105, 0);
        sale.check(1, 100, 0);
        sale.endMonth();
    }

    private static void bidAgain(TimberSale sale) {
        Tester.bid(sale, 1, 540, 100, 50);
        Tester.bid(sale, 0, 540, 100, 50);
    }

    private static void undoOfEachChange() {
        t.topic("promise 49, each change");
        List<Use> course = new ArrayList<>();
        undoable("load", course, sale -> Tester.load(sale, TWO));
        undoable("load once more", course, sale -> Tester.load(sale, "sale 9 1 0 0 0 0 0;species 7 1;plot 9;"));
        course.add(TimberSale::undo);
        undoable("addPlot", course, sale -> sale.addPlot(9, 9, 0, 0, 0, 0));
        undoable("removePlot", course, sale -> sale.removePlot(0));
        course.add(TimberSale::undo);
        course.add(TimberSale::undo);
        undoable("advertise", course, TimberSale::advertise);
        undoable("offer", course, sale -> sale.offer(7, 0, 100));
        course.add(sale -> sale.offer(7, 1, 90));
        undoable("setDeposit", course, sale -> sale.setDeposit(7, 690));
        undoable("seal", course, sale -> sale.seal(7));
        undoable("withdraw", course, sale -> sale.withdraw(7));
        course.add(TimberSale::undo);
        TimberSale sealed = made(course);
        t.refused("it is sealed again", Tester.STATE, () -> sealed.seal(7));
        undoable("open", course, TimberSale::open);
        undoable("award", course, TimberSale::award);
        undoable("setIndex", course, sale -> sale.setIndex(0, 0, 300));
        undoable("scale", course, sale -> sale.scale(0, 100, 0));
        undoable("check", course, sale -> sale.check(0, 50, 0));
        course.add(sale -> sale.scale(1, 10, 0));
        undoable("voidLoad", course, sale -> sale.voidLoad(1));
        undoable("endMonth", course, TimberSale::endMonth);
        undoable("pay", course, sale -> sale.pay(7));
        undoable("close", course, TimberSale::close);
        undoable("pay for a closed contract", course, sale -> sale.pay(7));
        course.add(TimberSale::undo);
        course.add(TimberSale::undo);
        undoable("declareDefault", course, TimberSale::declareDefault);
        undoable("load in a later phase", course, sale -> Tester.load(sale, TWO));
    }

    private static void undoInTheSecondSale() {
        t.topic("promise 49, second sale");
        TimberSale again = defaulted();
        again.advertise();
        again.undo();
        again.advertise();
        Tester.bid(again, 7, 1000000, 100, 50);
        again.open();
        t.due("the defaulted bidder after an undo", 4, () -> again.problem(7));
        List<Use> course = new ArrayList<>();
        course.add(ResaleTest::makeDefault);
        undoable("advertise", course, TimberSale::advertise);
        undoable("offer", course, used -> used.offer(0, 0, 100));
        course.add(used -> used.offer(0, 1, 50));
        undoable("setDeposit", course, used -> used.setDeposit(0, 540));
        undoable("seal", course, used -> used.seal(0));
        undoable("open", course, TimberSale::open);
        undoable("award", course, TimberSale::award);
        TimberSale sale = made(course);
        t.due("damages", 5809, sale::damages);
        for (int left = 6; left >= 0; left--) {
            sale.undo();
        }
        t.due("back in the default", 5, sale::phase);
        sale.advertise();
        Tester.bid(sale, 7, 1000000, 100, 50);
        sale.open();
        t.due("it is still known who defaulted", 4, () -> sale.problem(7));
        for (int left = 5; left >= 0; left--) {
            sale.undo();
        }
        t.due("with the first bids", 1, () -> sale.rank(7));
        t.due("and the first volume", 60, () -> sale.volume(0));
    }

    private static void undoOfLaterLoads() {
        t.topic("promise 49, loads of later months");
        TimberSale sale = contract();
        for (int month = 0; month < 12; month++) {
            sale.endMonth();
            sale.scale(month % 2, 10 + month, 0);
        }
        for (int change = 0; change < 7; change++) {
            sale.undo();
        }
        t.due("month", 9, sale::month);
        for (int month = 1; month <= 8; month++) {
            int which = month;
            t.due("month " + month, 9 + month, () -> sale.scaled(ALL, which, which + 1));
        }
        t.due("nothing in the present one", 0, () -> sale.scaled(ALL, 9, 36));
    }

    private static TimberSale made(List<Use> course, Use... more) {
        TimberSale sale = new TimberSale();
        course.forEach(step -> step.on(sale));
        Arrays.asList(more).forEach(step -> step.on(sale));
        return sale;
    }

    /** The sale must be the same after the change and its undoing, and other in between. */
    private static void undoable(String what, List<Use> course, Use change) {
        String before = Watch.everything(() -> made(course));
        String changed = Watch.everything(() -> made(course, change));
        t.due(what + " changes something", false, before.equals(changed));
        String undone = Watch.everything(() -> made(course, change, TimberSale::undo));
        t.due(what + " is undone", true, before.equals(undone));
        String again = Watch.everything(() -> made(course, change, TimberSale::undo, change));
        t.due(what + " can be done again", true, changed.equals(again));
        // What follows stands behind a change that was undone and done again.
        course.add(change);
        course.add(TimberSale::undo);
        course.add(change);
    }

    private static void undoDepth() {
        t.topic("promise 49, depth");
        TimberSale sale = new TimberSale();
        t.refused("no change", Tester.STATE, sale::undo);
        Tester.load(sale, "sale 30 1 0 0 0 0 0;species 0 1;");
        t.due("one change", 0, sale::undo);
        t.refused("none is left", Tester.STATE, sale::undo);
        Tester.load(sale, "sale 30 1 0 0 0 0 0;species 0 1;");
        for (int plot = 1; plot <= 20; plot++) {
            sale.addPlot(plot, 0, 0, 0, 0, 0);
        }
        for (int left = 7; left >= 5; left--) {
            int number = left;
            t.due("back to " + left, number, sale::undo);
        }
        t.due("17 plots", 17, sale::plotCount);
        sale.addPlot(100, 0, 0, 0, 0, 0);
        t.due("the new one is the latest", 5, sale::undo);
        t.due("17 plots again", 17, sale::plotCount);
        for (int left = 4; left >= 0; left--) {
            int number = left;
            t.due("back to " + left, number, sale::undo);
        }
        t.refused("eight at most", Tester.STATE, sale::undo);
        t.due("12 plots", 12, sale::plotCount);
        t.due("their sum is 78", 195, () -> sale.estimate(0, false));
        for (int plot = 0; plot < 9; plot++) {
            sale.removePlot(0);
        }
        t.due("eight again", 7, sale::undo);
        t.due("four plots", 4, sale::plotCount);
    }

    private static void whatIsNoChange() {
        t.topic("promise 49, no changes");
        TimberSale sale = contract();
        sale.undo();
        sale.undo();
        int left = 6;
        t.refused("an offer for a sealed bid", Tester.STATE, () -> sale.offer(7, 0, 1));
        t.refused("an award too early", Tester.STATE, sale::award);
        Tester.load(sale, "sale");
        sale.phase();
        t.due("what throws, an error and questions", left - 1, sale::undo);
        t.due("an equal deposit is a change", 5, () -> {
            sale.setDeposit(2, 0);
            return sale.undo();
        });
        TimberSale text = Tester.sale(TWO);
        Tester.append(text, "sale 2 1 0 0 0 0 0;");
        text.addPlot(1, 1, 0, 0, 0, 0);
        text.undo();
        t.due("append is no change, and undo leaves the buffer", 40, () -> text.append(0, 0, 0, 0, 0));
        t.due("it can be read", 0, () -> text.load(20));
        text.undo();
        t.refused("undo does not bring the text back", Tester.ARGUMENT, () -> text.load(1));
        t.due("but the sale", 3, text::plotCount);
    }
}
