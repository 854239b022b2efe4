/** The sentences of the sections 7 and 8 (changes) that name a boundary, one after the other. */
public final class ResaleSentencesTest {
    private static final Tester t = new Tester();

    public static void main(String[] args) {
        remainingVolumes();
        debtAndDeposit();
        monthAndTerm();
        someSpecies();
        secondVolumes();
        whoDefaulted();
        costs();
        eightChanges();
        aLongHistory();
        changesAtTheirEdges();
        refusedUndo();
        noChanges();
        theTextStays();
        t.end();
    }

    /** One species with the volume 100 and the rate 10, so a tenth costs a cent; the deposit is 100. */
    private static TimberSale contract(int term) {
        TimberSale sale = Tester.sale("sale 10 " + term + " 0 0 0 0 0;species 0 100;plot 10;");
        sale.advertise();
        Tester.bid(sale, 0, 100, 10);
        sale.open();
        sale.award();
        return sale;
    }

    private static void remainingVolumes() {
        t.topic("7: rounded down to whole cubic metres, but at least 0");
        TimberSale sale = contract(1);
        int[][] rows = {{1, 99}, {9, 99}, {1, 98}, {979, 1}, {1, 0}, {8, 0}, {1, 0}, {1, 0}, {10000, 0}};
        t.due("at first", 100, () -> sale.remaining(0));
        for (int[] row : rows) {
            sale.scale(0, row[0], 0);
            t.due("after " + sale.scaled(0, 0, 36), row[1], () -> sale.remaining(0));
        }
    }

    private static void debtAndDeposit() {
        t.topic("7: if the debt is greater than the deposit");
        for (int debt = 99; debt <= 101; debt++) {
            TimberSale sale = contract(35);
            sale.scale(0, debt, 0);
            t.refused("before it is booked", Tester.STATE, sale::declareDefault);
            sale.endMonth();
            if (debt <= 100) {
                t.refused("a debt of " + debt, Tester.STATE, sale::declareDefault);
                t.due("the phase stays", 3, sale::phase);
            } else {
                t.due("a debt of " + debt, 89, sale::declareDefault);
                t.due("the phase", 5, sale::phase);
            }
        }
        TimberSale paid = contract(35);
        paid.scale(0, 101, 0);
        paid.endMonth();
        paid.pay(1);
        t.refused("paid just so far", Tester.STATE, paid::declareDefault);
        paid.undo();
        t.due("not paid", 89, paid::declareDefault);
    }

    private static void monthAndTerm() {
        t.topic("7: if the month is not less than the term");
        for (int term : new int[] {1, 2, 34, 35}) {
            TimberSale sale = contract(term);
            for (int month = 0; month < term; month++) {
                t.refused("term " + term + ", month " + month, Tester.STATE, sale::declareDefault);
                sale.endMonth();
            }
            t.due("term " + term + ", its month", 100, sale::declareDefault);
        }
        TimberSale late = contract(1);
        while (late.month() < 35) {
            late.endMonth();
        }
        t.due("far behind the term", 100, late::declareDefault);
    }

    private static void someSpecies() {
        t.topic("7: and some species has a remaining volume greater than 0");
        int[][] rows = {{1000, 1000, 0}, {991, 991, 0}, {990, 1000, 1}, {1000, 990, 1}, {990, 990, 2}, {2000, 0, 100}};
        for (int[] row : rows) {
            TimberSale sale = Tester.sale("sale 10 1 0 0 0 0 0;species 0 1;species 0 1;plot 10 10;");
            sale.advertise();
            sale.seal(0);
            sale.open();
            sale.award();
            sale.scale(0, row[0], 0);
            sale.scale(1, Math.max(1, row[1]), row[1] == 0 ? 100 : 0);
            sale.endMonth();
            String what = row[0] + " and " + row[1] + " tenths of 1000 each";
            if (row[2] == 0) {
                t.refused(what, Tester.STATE, sale::declareDefault);
            } else {
                t.due(what, row[2], sale::declareDefault);
                t.due(what + ", for sale again", row[2], sale::advertise);
            }
        }
    }

    private static void secondVolumes() {
        t.topic("7: the volumes are then the remaining volumes");
        TimberSale sale = contract(1);
        sale.scale(0, 1001, 0);
        sale.endMonth();
        t.due("nothing remains", 0, sale::declareDefault);
        t.due("it is for sale nevertheless", 0, sale::advertise);
        t.due("volume", 0, () -> sale.volume(0));
        Tester.bid(sale, 1, 0, 7);
        Tester.bid(sale, 2, 0, 9);
        t.due("the bids are valid", 2, sale::open);
        t.due("worth nothing", 0, () -> sale.value(2));
        t.due("so the first one wins", 1, () -> sale.rank(1));
        t.due("with any rate", 0, () -> sale.leastWinningRate(1, 0));
        t.refused("the other never", Tester.ELEMENT, () -> sale.leastWinningRate(2, 0));
        t.refused("with any volume", Tester.ELEMENT, () -> sale.turningPoint(0));
        t.due("award", 1, sale::award);
        // 0 * 10 - 0 + 0 + 1001 - 100
        t.due("damages", 901, sale::damages);
    }

    private static void whoDefaulted() {
        t.topic("7: the bidder who defaulted can have no valid bid");
        for (int loser = 0; loser < 8; loser += 7) {
            TimberSale sale = Tester.sale("sale 10 1 0 0 0 0 0;species 0 100;plot 10;");
            sale.advertise();
            int who = loser;
            Tester.bid(sale, loser, 100, 10);
            sale.open();
            t.due("valid at first", 0, () -> sale.problem(who));
            sale.award();
            sale.endMonth();
            sale.declareDefault();
            sale.advertise();
            Tester.bid(sale, loser, 1000000000, 1000000);
            t.due("no valid bid", 0, sale::open);
            t.due("the problem", 4, () -> sale.problem(who));
            t.due("the rank", 0, () -> sale.rank(who));
            t.refused("no rate wins", Tester.ELEMENT, () -> sale.leastWinningRate(who, 0));
            t.refused("no award", Tester.ELEMENT, sale::award);
            t.due("the phase stays", 7, sale::phase);
            t.refused("no damages", Tester.STATE, sale::damages);
            sale.undo();
            Tester.bid(sale, 3, 0, 0);
            t.due("another bidder is valid", 1, sale::open);
            t.due("and wins with 0", 3, sale::award);
        }
    }

    private static void costs() {
        t.topic("7: plus the resale costs (0 to 1,000,000)");
        for (int costs = 0; costs <= 1000000; costs += 1000000) {
            TimberSale sale = Tester.sale("sale 10 1 0 100 0 0 " + costs + ";species 10 100;plot 10;");
            sale.advertise();
            Tester.bid(sale, 0, 100, 10);
            sale.open();
            sale.award();
            sale.setIndex(0, 0, 50);
            sale.endMonth();
            sale.declareDefault();
            sale.advertise();
            Tester.bid(sale, 1, 0, 10);
            sale.open();
            sale.award();
            // 100 * 10 (the minimum rate) - 1000 + costs + 0 - 100
            t.due("damages", costs - 100, sale::damages);
        }
        TimberSale last = contract(35);
        last.setIndex(11, 0, 10000);
        while (last.month() < 35) {
            last.endMonth();
        }
        last.declareDefault();
        last.advertise();
        Tester.bid(last, 1, 0, 1000000);
        last.open();
        last.award();
        t.due("far below 0, in the last quarter", 1000 - 100000000L - 100, last::damages);
    }

    private static void eightChanges() {
        t.topic("8: the latest 8 changes can be undone");
        for (int changes = 0; changes <= 18; changes++) {
            TimberSale sale = new TimberSale();
            for (int change = 1; change <= changes; change++) {
                Tester.load(sale, "sale 30 1 0 0 0 0 0;" + "plot;".repeat(change));
            }
            for (int left = Math.min(changes, 8) - 1; left >= 0; left--) {
                int due = left;
                t.due(changes + " changes, left", due, sale::undo);
            }
            t.refused(changes + " changes, no more", Tester.STATE, sale::undo);
            t.due(changes + " changes, what is left", Math.max(0, changes - 8), sale::plotCount);
            Tester.load(sale, "sale 30 1 0 0 0 0 0;plot;");
            t.due("a change after them", 0, sale::undo);
        }
    }

    private static void aLongHistory() {
        t.topic("8: and so it goes on for all 512 calls");
        TimberSale sale = contract(35);
        for (int paid = 1; paid <= 400; paid++) {
            sale.pay(paid);
        }
        long debt = sale.debt();
        t.due("all payments", -80200, sale::debt);
        for (int left = 7; left >= 0; left--) {
            int due = left;
            t.due("left", due, sale::undo);
            debt += 393 + left;
            t.due("the debt", debt, sale::debt);
        }
        t.refused("no more", Tester.STATE, sale::undo);
        t.due("the payments before stay", -77028, sale::debt);
    }

    private static void changesAtTheirEdges() {
        t.topic("8: in the full state a change is undone, too");
        TimberSale plots = Tester.sale("sale 30 1 0 0 0 0 0;species 0 1;" + "plot 7;".repeat(29));
        plots.addPlot(500, 0, 0, 0, 0, 0);
        t.refused("30 plots", Tester.STATE, () -> plots.addPlot(0, 0, 0, 0, 0, 0));
        t.due("undone", 1, plots::undo);
        t.due("29 plots", 29, plots::plotCount);
        t.due("the 30th again", 30, () -> plots.addPlot(8, 0, 0, 0, 0, 0));
        t.due("with its own volume", 211, () -> plots.estimate(0, false));
        plots.removePlot(0);
        plots.undo();
        t.due("removed and brought back", 29, () -> plots.mostInfluentialPlot(0));
        TimberSale loads = contract(35);
        for (int load = 0; load < 60; load++) {
            loads.scale(0, load + 1, 0);
        }
        loads.undo();
        t.refused("load 59 is gone", Tester.INDEX, () -> loads.net(59));
        t.due("load 58 is not", 59, () -> loads.net(58));
        t.due("the 60th again", 59, () -> loads.scale(0, 100, 0));
        loads.voidLoad(0);
        loads.undo();
        t.due("the first is back", 1, () -> loads.net(0));
        t.due("the last is back", 100, () -> loads.net(59));
        TimberSale month = contract(35);
        while (month.month() < 35) {
            month.endMonth();
        }
        month.undo();
        t.due("month 34", 34, month::month);
        month.endMonth();
        t.refused("month 35", Tester.STATE, month::endMonth);
        month.close();
        month.undo();
        t.due("open again", 3, month::phase);
        t.due("no deposit is subtracted", 0, month::debt);
        t.due("closed again", -100, month::close);
    }

    private static void refusedUndo() {
        t.topic("49: IllegalStateException if there is no change to undo");
        TimberSale fresh = new TimberSale();
        Tester.append(fresh, "sale 3 1 0 0 0 0 0 ;");
        t.refused("append is no change", Tester.STATE, fresh::undo);
        t.due("the buffer stays", 0, () -> fresh.load(20));
        t.due("the load is one", 0, fresh::undo);
        t.refused("it is undone", Tester.STATE, fresh::undo);
        t.refused("and once more", Tester.STATE, fresh::undo);
        String due = Watch.everything(TimberSale::new);
        t.due("nothing changes", true, due.equals(Watch.everything(() -> {
            TimberSale sale = Tester.sale("sale 3 1 0 0 0 0 0 ;");
            sale.undo();
            Watch.answer(sale::undo);
            return sale;
        })));
        t.due("the sale of a new object", 1, () -> fresh.addPlot(0, 0, 0, 0, 0, 0));
    }

    private static void noChanges() {
        t.topic("8: the calls that succeed (a load with an error is no change)");
        TimberSale sale = Tester.sale("sale 10 1 0 0 0 0 0;species 0 100;plot 10;");
        for (String text : new String[] {"", "sale", "sale 1", "sale 2 1 0 0 0 0 0;plot;plot;plot;"}) {
            t.due("an error: " + text, true, Tester.load(sale, text) < 0);
        }
        t.refused("no such plot", Tester.INDEX, () -> sale.removePlot(1));
        t.refused("no such volume", Tester.ARGUMENT, () -> sale.addPlot(501, 0, 0, 0, 0, 0));
        t.refused("no such phase", Tester.STATE, sale::open);
        t.due("the load is the only change", 0, sale::undo);
        TimberSale same = Tester.sale("sale 10 1 0 0 0 0 0;species 0 100;plot 10;");
        same.advertise();
        same.offer(0, 0, 0);
        same.setDeposit(0, 0);
        t.due("a change that changes nothing is one", 4, () -> {
            same.seal(0);
            return same.undo();
        });
        t.due("the deposit", 3, same::undo);
        t.due("the rate", 2, same::undo);
        t.due("the advertisement; the load is left", 1, same::undo);
        t.due("phase", 0, same::phase);
        TimberSale index = contract(1);
        index.setIndex(0, 0, 100);
        index.scale(0, 1, 100);
        index.check(0, 1, 100);
        index.endMonth();
        for (int left = 7; left >= 4; left--) {
            int due = left;
            t.due("index, load, check and month", due, index::undo);
        }
        t.due("phase", 3, index::phase);
        t.due("then the award", 3, index::undo);
        t.due("phase", 2, index::phase);
    }

    private static void theTextStays() {
        t.topic("8: the text buffer is not affected by this");
        TimberSale sale = Tester.sale("sale 10 1 0 0 0 0 0;species 0 100;plot 10;");
        sale.addPlot(1, 0, 0, 0, 0, 0);
        Tester.append(sale, "sale 3 1 0 0 0 0 0 ;");
        sale.undo();
        t.due("as long as before", 40, () -> sale.append(0x20202020, 0x20202020, 0x20202020, 0x20202020, 0x20202020));
        sale.undo();
        t.due("no sale any more", 0, sale::plotCount);
        t.due("the text is read", 0, () -> sale.load(40));
        sale.undo();
        t.refused("the text does not come back", Tester.ARGUMENT, () -> sale.load(1));
        t.due("its beginning", 20, () -> sale.append(0, 0, 0, 0, 0));
    }
}
