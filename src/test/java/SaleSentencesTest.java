/** The sentences of the sections 1, 2, 3 and 8 (texts) that name a boundary, one after the other. */
public final class SaleSentencesTest {
    private static final int ALL = TimberSale.NONE;
    private static final Tester t = new Tester();

    public static void main(String[] args) {
        numbersOfASale();
        plotsAndSize();
        theWholeTract();
        estimates();
        needed();
        textOf800Bytes();
        everyEndOfAText();
        numbersInPlots();
        codesAtTheSamePosition();
        bidsAtFirst();
        withdrawing();
        sealings();
        problemsInTheirOrder();
        depositAtItsEdge();
        winners();
        turningPoints();
        winningRates();
        stateBeforeElement();
        t.end();
    }

    /** A sale with one species of volume 100, in the bidding. */
    private static TimberSale hundred(String numbers, String species) {
        TimberSale sale = Tester.sale("sale 10 " + numbers + ";species " + species + ";plot 10;");
        sale.advertise();
        return sale;
    }

    private static void numbersOfASale() {
        t.topic("1: a species has a minimum rate (0 to 100,000)");
        TimberSale high = hundred("1 0 0 0 0 0", "100000 10000");
        Tester.bid(high, 0, 0, 99999);
        Tester.bid(high, 1, 0, 100000);
        t.due("one valid bid", 1, high::open);
        t.due("just below", 2, () -> high.problem(0));
        t.due("just enough", 0, () -> high.problem(1));
        TimberSale low = hundred("1 0 0 0 0 0", "0 1");
        low.seal(0);
        t.due("a rate of 0 is enough for 0", 1, low::open);

        t.topic("1: at first there are no species and no plots, the size is 2");
        TimberSale fresh = new TimberSale();
        t.refused("no plot to remove", Tester.INDEX, () -> fresh.removePlot(0));
        t.refused("no estimate", Tester.STATE, () -> fresh.estimate(ALL, false));
        t.refused("no species to advertise", Tester.STATE, fresh::advertise);
        t.refused("a volume without species", Tester.ARGUMENT, () -> fresh.addPlot(1, 0, 0, 0, 0, 0));
        fresh.addPlot(0, 0, 0, 0, 0, 0);
        t.due("an estimate of nothing", 0, () -> fresh.estimate(ALL, false));
        t.due("is 0 / 1", 1, () -> fresh.estimate(ALL, true));
        t.refused("no advertisement with a plot alone", Tester.STATE, fresh::advertise);
    }

    private static void plotsAndSize() {
        t.topic("2: there are at most 30 plots, and not more than the size");
        for (int size : new int[] {2, 3, 29, 30, 31, 200}) {
            int most = Math.min(size, 30);
            String head = "sale " + size + " 1 0 0 0 0 0;species 0 1;";
            TimberSale added = Tester.sale(head);
            for (int plots = 1; plots <= most; plots++) {
                int due = plots;
                t.due("size " + size, due, () -> added.addPlot(500, 0, 0, 0, 0, 0));
            }
            t.refused("one more, size " + size, Tester.STATE, () -> added.addPlot(0, 0, 0, 0, 0, 0));
            t.due("still as many", most, added::plotCount);
            t.due("one fewer", most - 1, () -> added.removePlot(0));
            t.due("room for another", most, () -> added.addPlot(0, 0, 0, 0, 0, 0));
            String full = head + "plot 1;".repeat(most);
            TimberSale read = new TimberSale();
            t.due("read, size " + size, most, () -> Tester.load(read, full));
            t.refused("no room for more", Tester.STATE, () -> read.addPlot(0, 0, 0, 0, 0, 0));
            t.due("one too many to read", TimberSale.TOO_MANY, () -> Tester.load(read, full + " plot 1;"));
            t.due("its word", full.length() + 1, read::errorPosition);
        }
    }

    private static void theWholeTract() {
        t.topic("2: N * (N - n), with as many plots as the size");
        TimberSale sale = Tester.sale("sale 2 1 0 0 0 0 0;species 0 1;plot 0;plot 500;");
        t.due("no error", 0, () -> sale.squaredError(0, false));
        t.due("0 is 0 / 1", 1, () -> sale.squaredError(0, true));
        t.due("accurate for 1 percent", true, sale.isAccurate(0, 1));
        t.due("all plots are needed", 2, () -> sale.neededPlots(0, 20));
        sale.removePlot(1);
        t.refused("one plot has no error", Tester.STATE, () -> sale.squaredError(0, false));
        t.refused("nor an accuracy", Tester.STATE, () -> sale.isAccurate(0, 1));
        t.refused("nor needed plots", Tester.STATE, () -> sale.neededPlots(0, 1));
        t.refused("nor a plot with most influence", Tester.STATE, () -> sale.mostInfluentialPlot(0));
        t.due("but an estimate", 0, () -> sale.estimate(0, false));
        sale.removePlot(0);
        t.refused("no plot, no estimate", Tester.STATE, () -> sale.estimate(0, false));
        t.refused("nor for all", Tester.STATE, () -> sale.estimate(ALL, true));
    }

    private static void estimates() {
        t.topic("9: as a fraction in lowest terms");
        TimberSale sale = Tester.sale("sale 7 1 0 0 0 0 0;species 0 1;species 0 1;plot 1 6;plot 1 0;plot 0 0;");
        t.due("14 / 3, above", 14, () -> sale.estimate(0, false));
        t.due("14 / 3, below", 3, () -> sale.estimate(0, true));
        t.due("42 / 3, above", 14, () -> sale.estimate(1, false));
        t.due("42 / 3, below", 1, () -> sale.estimate(1, true));
        // 7 * 4 * (3 * 2 - 4) / 18 and 7 * 4 * (3 * 36 - 36) / 18
        t.due("56 / 18, above", 28, () -> sale.squaredError(0, false));
        t.due("56 / 18, below", 9, () -> sale.squaredError(0, true));
        t.due("2016 / 18, above", 112, () -> sale.squaredError(1, false));
        t.due("2016 / 18, below", 1, () -> sale.squaredError(1, true));
        t.topic("13: of several the lowest one");
        // Sums 7, 1 and 0; the middle plot of species 0 has as much influence as the first.
        t.due("the last differs most", 2, () -> sale.mostInfluentialPlot(0));
        t.due("of all", 0, () -> sale.mostInfluentialPlot(ALL));
        TimberSale full = Tester.sale("sale 30 1 0 0 0 0 0;species 0 1;" + "plot 1;".repeat(29) + "plot 2;");
        t.due("the last of 30", 29, () -> full.mostInfluentialPlot(0));
    }

    private static void needed() {
        t.topic("12: the least number of plots, m from 1 to the size");
        TimberSale even = Tester.sale("sale 200 1 0 0 0 0 0;species 0 1;plot 500;plot 500;");
        t.due("1", 1, () -> even.neededPlots(0, 1));
        TimberSale nothing = Tester.sale("sale 200 1 0 0 0 0 0;species 0 1;plot 0;plot 0;");
        t.due("no timber at all", 1, () -> nothing.neededPlots(0, 1));
        TimberSale uneven = Tester.sale("sale 200 1 0 0 0 0 0;species 0 1;plot 0;plot 500;");
        t.due("the size", 200, () -> uneven.neededPlots(0, 1));
        // 40,000 * (200 - m) * 2 <= 400 * 200 * m: m is 100.
        t.due("just accurate", 100, () -> uneven.neededPlots(0, 20));
        t.topic("2: accurate if twice its standard error is at most p percent");
        // 40,000 * 198 * 1 <= p * p * 200 * 11 * 11
        TimberSale edge = Tester.sale("sale 200 1 0 0 0 0 0;species 0 1;plot 5;plot 6;");
        t.due("not for 18", false, edge.isAccurate(0, 18));
        t.due("for 19", true, edge.isAccurate(0, 19));
        // Cases that a factor of 39,999 or 40,001 instead of 40,000 would turn round.
        TimberSale above = Tester.sale("sale 3 1 0 0 0 0 0;species 0 1;plot 258;plot 341;");
        t.due("by a hair not accurate", false, above.isAccurate(0, 16));
        TimberSale below = Tester.sale("sale 3 1 0 0 0 0 0;species 0 1;plot 67;plot 84;");
        t.due("by a hair accurate", true, below.isAccurate(0, 13));
        TimberSale plots = Tester.sale("sale 50 1 0 0 0 0 0;species 0 1;plot 9;plot 40;");
        t.due("37 are by a hair too few", 38, () -> plots.neededPlots(0, 15));
    }

    private static void textOf800Bytes() {
        t.topic("8: a text of at most 800 bytes");
        String head = "sale 30 1 0 0 0 0 0;" + "species 0 1;".repeat(6);
        String plots = "plot 500 500 500 500 500 500;".repeat(20);
        String good = head + plots;
        TimberSale spaces = new TimberSale();
        t.due("spaces up to the end", 20, () -> Tester.load(spaces, good + " ".repeat(800 - good.length())));
        TimberSale front = new TimberSale();
        t.due("spaces in front", 20, () -> Tester.load(front, " ".repeat(800 - good.length()) + good));
        TimberSale late = new TimberSale();
        t.due("an error at the last byte", TimberSale.SYNTAX_ERROR,
                () -> Tester.load(late, good + " ".repeat(799 - good.length()) + ";"));
        t.due("its position", 799, late::errorPosition);
        TimberSale end = new TimberSale();
        t.due("an end too early at 800", TimberSale.SYNTAX_ERROR,
                () -> Tester.load(end, " ".repeat(801 - good.length()) + good.substring(0, good.length() - 1)));
        t.due("its position", 800, end::errorPosition);
        TimberSale word = new TimberSale();
        t.due("a word up to the last byte", TimberSale.SYNTAX_ERROR,
                () -> Tester.load(word, " ".repeat(796) + "sale"));
        t.due("a number is missing", 800, word::errorPosition);
        TimberSale cut = new TimberSale();
        t.due("a word that is cut", TimberSale.SYNTAX_ERROR, () -> Tester.load(cut, " ".repeat(797) + "sal"));
        t.due("is no word of the text", 797, cut::errorPosition);
        TimberSale number = new TimberSale();
        t.due("a number of many digits", TimberSale.SYNTAX_ERROR,
                () -> Tester.load(number, "sale 2 1 0 0 0 0 " + "0".repeat(783)));
        t.due("up to the end", 800, number::errorPosition);
        TimberSale nines = new TimberSale();
        t.due("out of range", TimberSale.VALUE_ERROR, () -> Tester.load(nines, "sale " + "9".repeat(795)));
        t.due("at its first digit", 5, nines::errorPosition);
        TimberSale full = new TimberSale();
        Tester.append(full, good + " ".repeat(800 - good.length()));
        t.refused("no byte more", Tester.STATE, () -> full.append(-1, -1, -1, -1, -1));
        t.due("the refused bytes are not there", 20, () -> full.load(800));
    }

    /** Every end of a good text is an error at that end, but behind a semicolon (or spaces). */
    private static void everyEndOfAText() {
        t.topic("8: an unexpected end of the text (at the length of the text)");
        String text = " sale 3 12 0 0 0 0 50 ; species 10 100 ;species 0 1; plot 7 12; plot 0 500 ; ";
        for (int length = 0; length <= text.length(); length++) {
            String part = text.substring(0, length);
            boolean ends = part.stripTrailing().endsWith(";");
            int start = length;
            while (start > 0 && Character.isLetter(part.charAt(start - 1))) {
                start--;
            }
            boolean isWord = part.endsWith("sale") || part.endsWith("species") || part.endsWith("plot");
            TimberSale sale = new TimberSale();
            int plots = part.length() - part.replace("plot", "plo").length();
            t.due("length " + length, ends ? plots : TimberSale.SYNTAX_ERROR, () -> Tester.load(sale, part));
            t.due("position " + length, ends ? ALL : isWord ? length : start, sale::errorPosition);
        }
    }

    private static void numbersInPlots() {
        t.topic("8: a plot has exactly one number for each species");
        for (int kinds = 0; kinds <= 6; kinds++) {
            for (int numbers = 0; numbers <= 7; numbers++) {
                String head = "sale 2 1 0 0 0 0 0;" + "species 0 1;".repeat(kinds) + "plot";
                String text = head + " 5".repeat(numbers) + " ;";
                int due = numbers == kinds ? 1 : TimberSale.SYNTAX_ERROR;
                // Too few: at the semicolon. Too many: at the first one that is too many.
                int at = numbers == kinds ? ALL : head.length() + 2 * Math.min(numbers, kinds) + 1;
                TimberSale sale = new TimberSale();
                t.due(numbers + " for " + kinds, due, () -> Tester.load(sale, text));
                t.due("position, " + numbers + " for " + kinds, at, sale::errorPosition);
            }
        }
    }

    private static void codesAtTheSamePosition() {
        t.topic("8: if several error codes fit the same position, the first one");
        String six = "sale 2 1 0 0 0 0 0;" + "species 0 1;".repeat(6);
        String full = "sale 2 1 0 0 0 0 0;plot;plot;";
        error("a number too many, out of range", "sale 2 1 0 0 0 0 0;plot 501;", TimberSale.SYNTAX_ERROR, 24);
        error("an eighth number, out of range", "sale 2 1 0 0 0 0 0 9999999;", TimberSale.SYNTAX_ERROR, 19);
        error("a seventh species behind a plot", six + "plot 0 0 0 0 0 0; species", TimberSale.SYNTAX_ERROR,
                six.length() + 18);
        error("a species behind as many plots as the size", full + "species", TimberSale.SYNTAX_ERROR, full.length());
        error("a seventh species with an error behind it", six + "species x", TimberSale.TOO_MANY, six.length());
        error("a plot too many with an error behind it", full + "plot !", TimberSale.TOO_MANY, full.length());
        error("a plot too many at the end", full + "plot", TimberSale.TOO_MANY, full.length());
        error("a plot too many that is cut", full + "plo", TimberSale.SYNTAX_ERROR, full.length());
        error("a value before a plot too many", "sale 2 1 0 0 0 0 0;species 0 0;plot 1;plot 1;plot 1;",
                TimberSale.VALUE_ERROR, 29);
    }

    private static void error(String what, String text, int code, int position) {
        TimberSale sale = new TimberSale();
        t.due(what, code, () -> Tester.load(sale, text));
        t.due("position of " + what, position, sale::errorPosition);
        t.refused("no change: " + what, Tester.STATE, sale::undo);
    }

    private static void bidsAtFirst() {
        t.topic("3: a bid has a rate for each species and a deposit, all 0 at first");
        TimberSale sale = Tester.sale("sale 2 1 0 0 0 0 0;" + "species 0 1;".repeat(6));
        sale.advertise();
        for (int bidder = 0; bidder < 8; bidder++) {
            int who = bidder;
            for (int species = 0; species < 6; species++) {
                int kind = species;
                t.due("rate " + bidder + " " + species, 0, () -> sale.offer(who, kind, who * 10 + kind));
            }
            t.due("deposit " + bidder, 0, () -> sale.setDeposit(who, who + 1));
        }
        for (int bidder = 0; bidder < 8; bidder++) {
            int who = bidder;
            for (int species = 0; species < 6; species++) {
                int kind = species;
                t.due("then " + bidder + " " + species, who * 10 + kind, () -> sale.offer(who, kind, 0));
            }
            t.due("then deposit " + bidder, who + 1, () -> sale.setDeposit(who, 0));
        }
    }

    private static void withdrawing() {
        t.topic("19: all its rates and its deposit are 0 again, and it is not sealed");
        TimberSale sale = Tester.sale("sale 2 1 0 0 0 0 0;" + "species 0 1;".repeat(6));
        sale.advertise();
        Tester.bid(sale, 7, 70, 1, 2, 3, 4, 5, 6);
        Tester.bid(sale, 6, 60, 6, 5, 4, 3, 2, 1);
        sale.offer(5, 0, 50);
        t.refused("a bid that is not sealed", Tester.STATE, () -> sale.withdraw(5));
        t.due("it stays", 50, () -> sale.offer(5, 0, 50));
        sale.withdraw(7);
        for (int species = 0; species < 6; species++) {
            int kind = species;
            t.due("rate " + species, 0, () -> sale.offer(7, kind, 0));
        }
        t.due("deposit", 0, () -> sale.setDeposit(7, 0));
        sale.undo();
        t.refused("not sealed", Tester.STATE, () -> sale.withdraw(7));
        t.refused("the other is sealed still", Tester.STATE, () -> sale.offer(6, 0, 1));
        sale.open();
        t.due("and not sealed after the opening", 1, () -> sale.problem(7));
        t.due("the other is valid", 0, () -> sale.problem(6));
    }

    private static void sealings() {
        t.topic("3: each sealing gets the next number: 1, 2, and so on");
        TimberSale sale = hundred("1 0 0 0 0 0", "0 1");
        for (int bidder = 7; bidder >= 0; bidder--) {
            int who = bidder;
            t.due("bidder " + bidder, 8 - bidder, () -> sale.seal(who));
        }
        t.refused("sealed already", Tester.STATE, () -> sale.seal(7));
        for (int number = 9; number < 200; number++) {
            int due = number;
            sale.withdraw(3);
            t.due("sealing " + number, due, () -> sale.seal(3));
        }
        sale.undo();
        t.due("a sealing that is undone gives its number back", 199, () -> sale.seal(3));
        sale.open();
        t.due("sealed last", 8, () -> sale.rank(3));
        t.due("sealed first", 1, () -> sale.rank(7));
        t.due("sealed as the eighth", 7, () -> sale.rank(0));
    }

    private static void problemsInTheirOrder() {
        t.topic("3: the problems of a bid are checked in this order");
        TimberSale sale = Tester.sale("sale 10 1 10 0 0 0 0;species 10 1;species 10 1;plot 10 10;");
        sale.advertise();
        Tester.bid(sale, 5, 1000000, 500, 500);
        sale.open();
        sale.award();
        sale.endMonth();
        sale.declareDefault();
        sale.advertise();
        // The bidder 5 has defaulted; what else is wrong comes before that.
        rates(sale, 5, 9, 500, 0);
        t.due("not sealed, low rate, low deposit, defaulted", 1, () -> problemOpened(sale, 5));
        sale.seal(5);
        t.due("low rate, low deposit, defaulted", 2, () -> problemOpened(sale, 5));
        sale.undo();
        rates(sale, 5, 500, 9, 1000000);
        sale.seal(5);
        t.due("low rate of the last species, defaulted", 2, () -> problemOpened(sale, 5));
        sale.undo();
        rates(sale, 5, 10, 10, 199);
        sale.seal(5);
        t.due("low deposit, defaulted", 3, () -> problemOpened(sale, 5));
        sale.undo();
        sale.setDeposit(5, 200);
        sale.seal(5);
        t.due("defaulted", 4, () -> problemOpened(sale, 5));
        rates(sale, 4, 10, 9, 0);
        t.due("another one: not sealed, low rate, low deposit", 1, () -> problemOpened(sale, 4));
        sale.seal(4);
        t.due("low rate, low deposit", 2, () -> problemOpened(sale, 4));
        sale.undo();
        rates(sale, 4, 10, 10, 199);
        sale.seal(4);
        t.due("low deposit", 3, () -> problemOpened(sale, 4));
        sale.undo();
        sale.setDeposit(4, 200);
        sale.seal(4);
        t.due("none", 0, () -> problemOpened(sale, 4));
    }

    private static void rates(TimberSale sale, int bidder, int first, int second, int deposit) {
        sale.offer(bidder, 0, first);
        sale.offer(bidder, 1, second);
        sale.setDeposit(bidder, deposit);
    }

    private static int problemOpened(TimberSale sale, int bidder) {
        sale.open();
        int problem = sale.problem(bidder);
        sale.undo();
        return problem;
    }

    private static void depositAtItsEdge() {
        t.topic("3: the deposit, times 100, is less than the value times the deposit percentage");
        int[][] rows = {{0, 1000000, 0, 0}, {50, 1, 50, 0}, {50, 1, 49, 3}, {1, 1, 1, 0}, {1, 1, 0, 3}, {1, 0, 0, 0},
            {7, 33, 231, 0}, {7, 33, 230, 3}, {50, 1000000, 50000000, 0}, {50, 1000000, 49999999, 3}};
        for (int[] row : rows) {
            TimberSale sale = hundred("1 " + row[0] + " 0 0 0 0", "0 1");
            Tester.bid(sale, 0, row[2], row[1]);
            sale.open();
            t.due(row[0] + " percent of " + row[1] + "00, deposit " + row[2], row[3], () -> sale.problem(0));
        }
        TimberSale odd = Tester.sale("sale 3 1 33 0 0 0 0;species 0 1;plot 1;");
        odd.advertise();
        // 33 percent of 3 is 0.99
        Tester.bid(odd, 0, 1, 1);
        Tester.bid(odd, 1, 0, 1);
        odd.open();
        t.due("not rounded, enough", 0, () -> odd.problem(0));
        t.due("not rounded, too low", 3, () -> odd.problem(1));
    }

    private static void winners() {
        t.topic("3: the greatest value, of several the one that was sealed first");
        TimberSale sale = hundred("1 0 0 0 0 0", "0 1");
        for (int bidder : new int[] {3, 6, 0}) {
            Tester.bid(sale, bidder, 0, 5);
        }
        Tester.bid(sale, 7, 0, 6);
        Tester.bid(sale, 1, 0, 4);
        sale.withdraw(3);
        Tester.bid(sale, 3, 0, 5);
        t.due("valid", 5, sale::open);
        int[] ranks = {3, 5, 0, 4, 0, 0, 2, 1};
        for (int bidder = 0; bidder < 8; bidder++) {
            int who = bidder;
            t.due("rank of " + bidder, ranks[bidder], () -> sale.rank(who));
        }
        t.due("award", 7, sale::award);
        TimberSale equal = hundred("1 0 0 0 0 0", "0 1");
        for (int bidder = 7; bidder >= 0; bidder--) {
            Tester.bid(equal, bidder, 0, 5);
        }
        t.due("all eight are valid", 8, equal::open);
        for (int bidder = 0; bidder < 8; bidder++) {
            int who = bidder;
            t.due("rank by the sealing " + bidder, 8 - bidder, () -> equal.rank(who));
        }
        t.due("the first sealing wins", 7, equal::award);
        TimberSale none = hundred("1 0 0 0 0 0", "0 1");
        t.due("no bids", 0, none::open);
        t.refused("no award", Tester.ELEMENT, none::award);
        t.due("the phase stays", 2, none::phase);
    }

    private static void turningPoints() {
        t.topic("24: the volume is volume * (100 + p) / 100, rounded down");
        // Volume 3: 2 from -1 to -33, 1 from -34, 0 from -67; 4 from 34, 5 from 67, 6 at 100.
        t.due("2 from -1 percent", -1, () -> lessOf3(2));
        t.due("1 from -34 percent", -34, () -> lessOf3(1));
        t.due("0 from -67 percent", -67, () -> lessOf3(0));
        t.due("4 from 34 percent", 34, () -> moreOf3(4));
        t.due("5 from 67 percent", 67, () -> moreOf3(5));
        t.due("6 at 100 percent", 100, () -> moreOf3(6));
        t.refused("7 is not to be had", Tester.ELEMENT, () -> moreOf3(7));
        t.topic("24: NoSuchElementException if there is no such change, or no valid bid");
        TimberSale empty = Tester.sale("sale 2 1 0 0 0 0 0;species 0 1;species 0 1;plot 0 1;");
        empty.advertise();
        Tester.bid(empty, 0, 0, 0, 5);
        Tester.bid(empty, 1, 0, 1000000, 4);
        empty.open();
        t.refused("a species without volume", Tester.ELEMENT, () -> empty.turningPoint(0));
    }

    /** Bidder 0 wins as long as there is more than this of species 0; 1 was sealed first. */
    private static int lessOf3(int enough) {
        TimberSale sale = threes();
        Tester.bid(sale, 1, 0, 0, enough);
        Tester.bid(sale, 0, 0, 1, 0);
        sale.open();
        return sale.turningPoint(0);
    }

    /** Bidder 1 wins as soon as there is this much of species 0. */
    private static int moreOf3(int needed) {
        TimberSale sale = threes();
        Tester.bid(sale, 1, 0, 1, 0);
        Tester.bid(sale, 0, 0, 0, needed);
        sale.open();
        return sale.turningPoint(0);
    }

    /** Volumes 3 and 1. */
    private static TimberSale threes() {
        TimberSale sale = Tester.sale("sale 4 1 0 0 0 0 0;species 0 1;species 0 1;plot 1 1;plot 1 0;plot 1 0;plot 0 0;");
        sale.advertise();
        return sale;
    }

    private static void winningRates() {
        t.topic("25: the least rate with which the bid would be valid and win");
        TimberSale sale = hundred("1 50 0 0 0 0", "7 1");
        Tester.bid(sale, 0, 350, 0);
        sale.offer(1, 0, 7);
        sale.open();
        t.due("the least rate that is valid", 7, () -> sale.leastWinningRate(0, 0));
        t.refused("a bid that is not sealed", Tester.ELEMENT, () -> sale.leastWinningRate(1, 0));
        TimberSale low = hundred("1 50 0 0 0 0", "7 1");
        Tester.bid(low, 0, 349, 0);
        low.open();
        t.refused("a deposit too low even for that", Tester.ELEMENT, () -> low.leastWinningRate(0, 0));
        TimberSale top = hundred("1 0 0 0 0 0", "0 1");
        Tester.bid(top, 0, 0, 0);
        Tester.bid(top, 1, 0, 1000000);
        Tester.bid(top, 2, 0, 0);
        top.open();
        t.due("sealed first, the greatest rate is enough", 1000000, () -> top.leastWinningRate(0, 0));
        t.refused("sealed last, it is not", Tester.ELEMENT, () -> top.leastWinningRate(2, 0));
        t.due("the winner needs more than 0", 1, () -> top.leastWinningRate(1, 0));
    }

    private static void stateBeforeElement() {
        t.topic("9: the one named first, IllegalStateException before NoSuchElementException");
        TimberSale sale = hundred("1 0 0 0 0 0", "0 1");
        t.refused("award", Tester.STATE, sale::award);
        t.refused("turningPoint", Tester.STATE, () -> sale.turningPoint(0));
        t.refused("leastWinningRate", Tester.STATE, () -> sale.leastWinningRate(0, 0));
        t.refused("indexFor", Tester.STATE, () -> sale.indexFor(0, 1000000));
        sale.open();
        t.refused("award of no bid", Tester.ELEMENT, sale::award);
        t.refused("turningPoint of no bid", Tester.ELEMENT, () -> sale.turningPoint(0));
        t.refused("leastWinningRate of no bid", Tester.ELEMENT, () -> sale.leastWinningRate(0, 0));
        t.refused("indexFor before the contract", Tester.STATE, () -> sale.indexFor(0, 1000000));
    }
}
