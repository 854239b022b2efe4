/** Promises 1 to 5: a new object, append, load, errorPosition, phase. */
public final class SetupTest {
    private static final String GOOD = "sale 20 6 10 50 5 10 5000;species 1000 100;plot 10;plot 0;";
    private static final Tester t = new Tester();

    public static void main(String[] args) {
        newObject();
        append();
        loadReplacesTheSale();
        loadTakesTheFirstBytes();
        readingOfWordsAndSpaces();
        syntaxErrors();
        valueErrors();
        rangesOfNumbers();
        tooMany();
        firstErrorWins();
        errorPosition();
        phase();
        t.end();
    }

    private static void newObject() {
        t.topic("promise 1");
        TimberSale sale = new TimberSale();
        t.due("phase", 0, sale::phase);
        t.due("plots", 0, sale::plotCount);
        t.due("month", 0, sale::month);
        t.due("debt", 0, sale::debt);
        t.due("adjustment", 0, sale::adjustment);
        t.due("factor above", 1, () -> sale.factor(false));
        t.due("factor below", 1, () -> sale.factor(true));
        t.refused("no species", Tester.INDEX, () -> sale.volume(0));
        t.refused("nothing to undo", Tester.STATE, sale::undo);
        t.refused("empty buffer", Tester.ARGUMENT, () -> sale.load(1));
        t.due("empty text", TimberSale.SYNTAX_ERROR, () -> sale.load(0));
        t.due("first plot of size 2", 1, () -> sale.addPlot(0, 0, 0, 0, 0, 0));
        t.due("second plot of size 2", 2, () -> sale.addPlot(0, 0, 0, 0, 0, 0));
        t.refused("third plot of size 2", Tester.STATE, () -> sale.addPlot(0, 0, 0, 0, 0, 0));
        TimberSale other = new TimberSale();
        t.due("another object is apart", 0, other::plotCount);
    }

    private static void append() {
        t.topic("promise 2");
        TimberSale sale = new TimberSale();
        // "sale 2 1 0 0 0 0 0 ;": the most significant byte comes first.
        t.due("20 bytes", 20, () -> sale.append(0x73616c65, 0x20322031, 0x20302030, 0x20302030, 0x2030203b));
        t.due("they are read in order", 0, () -> sale.load(20));
        for (int i = 1; i <= 40; i++) {
            int length = 20 * i;
            t.due("length " + length, length, () -> sale.append(-1, 0, 1, 2, 3));
        }
        t.refused("more than 800", Tester.STATE, () -> sale.append(0, 0, 0, 0, 0));
        t.refused("more than 800, once more", Tester.STATE, () -> sale.append(0, 0, 0, 0, 0));
        t.refused("801 bytes to read", Tester.ARGUMENT, () -> sale.load(801));
        t.due("800 bytes to read", TimberSale.SYNTAX_ERROR, () -> sale.load(800));
        t.due("byte 255 is no token", 0, sale::errorPosition);
        t.due("empty after load", 20, () -> sale.append(0, 0, 0, 0, 0));
    }

    private static void loadReplacesTheSale() {
        t.topic("promise 3, replacing");
        TimberSale sale = Tester.sale(GOOD);
        sale.advertise();
        Tester.bid(sale, 0, 1000000, 1000);
        sale.open();
        sale.award();
        sale.scale(0, 100, 0);
        sale.setIndex(0, 0, 500);
        sale.check(0, 50, 0);
        sale.endMonth();
        t.due("a text with an error", TimberSale.SYNTAX_ERROR, () -> Tester.load(sale, "sale"));
        t.due("the present sale stays", 3, sale::phase);
        t.due("and its month", 1, sale::month);
        t.due("and its loads", 100, () -> sale.net(0));
        t.refused("the buffer is empty", Tester.ARGUMENT, () -> sale.load(1));
        t.due("plots of a good text", 2, () -> Tester.load(sale, GOOD));
        t.refused("the buffer is empty again", Tester.ARGUMENT, () -> sale.load(1));
        t.due("phase", 0, sale::phase);
        t.due("month", 0, sale::month);
        t.due("debt", 0, sale::debt);
        t.due("factor", 1, () -> sale.factor(false));
        t.refused("no loads", Tester.INDEX, () -> sale.net(0));
        t.due("volume", 100, sale::advertise);
        t.due("no bids", 0, () -> sale.offer(0, 0, 1000));
        sale.setDeposit(0, 1000000);
        t.due("the sealings begin again", 1, () -> sale.seal(0));
        sale.open();
        sale.award();
        t.due("no index is set", 1000, () -> sale.rate(0, 0));
        t.due("a sale without plots", 0, () -> Tester.load(sale, "sale 2 1 0 0 0 0 0;"));
        t.due("it has none", 0, sale::plotCount);
        t.refused("and no species", Tester.STATE, sale::advertise);
    }

    private static void loadTakesTheFirstBytes() {
        t.topic("promise 3, length");
        TimberSale sale = new TimberSale();
        t.refused("negative", Tester.ARGUMENT, () -> sale.load(-1));
        Tester.append(sale, GOOD);
        t.refused("more than the buffer has", Tester.ARGUMENT, () -> sale.load(61));
        t.refused("negative with a text", Tester.ARGUMENT, () -> sale.load(-1));
        t.due("the buffer is kept then", 80, () -> sale.append(-1, -1, -1, -1, -1));
        t.due("what stands behind is not read", 2, () -> sale.load(GOOD.length()));
        Tester.append(sale, GOOD);
        t.due("one plot only", 1, () -> sale.load(GOOD.length() - 7));
        Tester.append(sale, GOOD);
        t.due("no text", TimberSale.SYNTAX_ERROR, () -> sale.load(0));
        t.due("error of no text", 0, sale::errorPosition);
        t.due("the plot from before", 1, sale::plotCount);
        cut("a semicolon behind the end", "sale 2 1 0 0 0 0 0", ";");
        cut("a digit behind the end", "sale 2 1 0 0 0 0", "1");
        cut("a letter behind the end", "sale", "s");
        cut("a letter behind a plot", "sale 2 1 0 0 0 0 0;plot", "s");
    }

    /** A text that ends too early, with a byte in the buffer that must not be looked at. */
    private static void cut(String what, String text, String behind) {
        TimberSale sale = new TimberSale();
        Tester.append(sale, text + behind);
        t.due(what, TimberSale.SYNTAX_ERROR, () -> sale.load(text.length()));
        t.due(what + ", position", text.length(), sale::errorPosition);
    }

    private static void readingOfWordsAndSpaces() {
        t.topic("promise 3, tokens");
        good("no needless spaces", "sale2 1 0 0 0 0 0;species0 1;plot7;", 1);
        good("many spaces", "  sale   2  1 0 0 0  0 0  ;  species 0   1 ;  plot  7  ;   ", 1);
        good("leading zeros", "sale 0000000000000000000002 01 00 0 0 0 000;", 0);
        good("plots without species", "sale 2 1 0 0 0 0 0;plot;plot ;", 2);
        bad("words run together", "sale 2 1 0 0 0 0 0;speciesplot", TimberSale.SYNTAX_ERROR, 19);
        bad("a longer word", "sales 2 1 0 0 0 0 0;", TimberSale.SYNTAX_ERROR, 0);
        bad("longer by a", "salea 2 1 0 0 0 0 0;", TimberSale.SYNTAX_ERROR, 0);
        bad("longer by z", "salez 2 1 0 0 0 0 0;", TimberSale.SYNTAX_ERROR, 0);
        bad("a shorter word", "sal 2 1 0 0 0 0 0;", TimberSale.SYNTAX_ERROR, 0);
        bad("a capital letter", "Sale 2 1 0 0 0 0 0;", TimberSale.SYNTAX_ERROR, 0);
        bad("a capital letter behind", "saleS 2 1 0 0 0 0 0;", TimberSale.SYNTAX_ERROR, 4);
        bad("longer plot", "sale 2 1 0 0 0 0 0; plots;", TimberSale.SYNTAX_ERROR, 20);
        bad("longer species", "sale 2 1 0 0 0 0 0; speciesz 1 1;", TimberSale.SYNTAX_ERROR, 20);
        bad("a tab is no space", "sale\t2 1 0 0 0 0 0;", TimberSale.SYNTAX_ERROR, 4);
        bad("a minus", "sale -2 1 0 0 0 0 0;", TimberSale.SYNTAX_ERROR, 5);
        bad("a zero byte", "sale 2 1 0 0 0 0 0;\0", TimberSale.SYNTAX_ERROR, 19);
        bad("a byte above 127", "sale 2 1 0 0 0 0 0;" + (char) 0xb5, TimberSale.SYNTAX_ERROR, 19);
        bad("the sign before 0", "sale 2/1 0 0 0 0 0;", TimberSale.SYNTAX_ERROR, 6);
        bad("the sign behind 9", "sale 2:1 0 0 0 0 0;", TimberSale.SYNTAX_ERROR, 6);
        bad("the sign before a", "sale`2 1 0 0 0 0 0;", TimberSale.SYNTAX_ERROR, 4);
        bad("the sign behind z", "sale{2 1 0 0 0 0 0;", TimberSale.SYNTAX_ERROR, 4);
    }

    private static void syntaxErrors() {
        t.topic("promise 3, SYNTAX_ERROR");
        bad("spaces alone", "   ", TimberSale.SYNTAX_ERROR, 3);
        bad("a number first", "2 1", TimberSale.SYNTAX_ERROR, 0);
        bad("another word first", " plot 2", TimberSale.SYNTAX_ERROR, 1);
        bad("end behind sale", "sale", TimberSale.SYNTAX_ERROR, 4);
        bad("end behind spaces", "sale 2 1   ", TimberSale.SYNTAX_ERROR, 11);
        bad("a number too few", "sale 2 1 0 0 0 0;", TimberSale.SYNTAX_ERROR, 16);
        bad("a number too many", "sale 2 1 0 0 0 0 0 7;", TimberSale.SYNTAX_ERROR, 19);
        bad("no semicolon", "sale 2 1 0 0 0 0 0", TimberSale.SYNTAX_ERROR, 18);
        bad("two semicolons", "sale 2 1 0 0 0 0 0;;", TimberSale.SYNTAX_ERROR, 19);
        bad("a second sale", "sale 2 1 0 0 0 0 0; sale", TimberSale.SYNTAX_ERROR, 20);
        bad("a species without index", "sale 2 1 0 0 0 0 0;species 1;", TimberSale.SYNTAX_ERROR, 28);
        bad("a species with three", "sale 2 1 0 0 0 0 0;species 1 1 1;", TimberSale.SYNTAX_ERROR, 31);
        bad("end of a species", "sale 2 1 0 0 0 0 0;species 1 1", TimberSale.SYNTAX_ERROR, 30);
        bad("species behind a plot", "sale 2 1 0 0 0 0 0;plot;species 1 1;", TimberSale.SYNTAX_ERROR, 24);
        bad("too few in a plot", "sale 2 1 0 0 0 0 0;species 1 1;plot;", TimberSale.SYNTAX_ERROR, 35);
        bad("too few at the end", "sale 2 1 0 0 0 0 0;species 1 1;plot", TimberSale.SYNTAX_ERROR, 35);
        bad("too many in a plot", "sale 2 1 0 0 0 0 0;species 1 1;plot 1 2;", TimberSale.SYNTAX_ERROR, 38);
        bad("a number without species", "sale 2 1 0 0 0 0 0;plot 1;", TimberSale.SYNTAX_ERROR, 24);
        bad("end of a plot", "sale 2 1 0 0 0 0 0;species 1 1;plot 1 ", TimberSale.SYNTAX_ERROR, 38);
        bad("a word in a plot", "sale 2 1 0 0 0 0 0;species 1 1;plot x;", TimberSale.SYNTAX_ERROR, 36);
    }

    private static void valueErrors() {
        t.topic("promise 3, VALUE_ERROR");
        bad("a long number", "sale 99999999999999999999999999 1", TimberSale.VALUE_ERROR, 5);
        bad("2 to the 32nd plus 2", "sale 4294967298 1 0 0 0 0 0;", TimberSale.VALUE_ERROR, 5);
        bad("its first digit, a zero", "sale 00201 1 0 0 0 0 0;", TimberSale.VALUE_ERROR, 5);
        bad("the second plot", "sale 2 1 0 0 0 0 0;species 1 1;plot 500;plot 501;", TimberSale.VALUE_ERROR, 45);
        bad("the second species", "sale 2 1 0 0 0 0 0;species 1 1;species 1 10001;", TimberSale.VALUE_ERROR, 41);
    }

    private static void rangesOfNumbers() {
        t.topic("promise 3, ranges");
        range("sale ", " 1 0 0 0 0 0;", 2, 200);
        range("sale 2 ", " 0 0 0 0 0;", 1, 35);
        range("sale 2 1 ", " 0 0 0 0;", 0, 50);
        range("sale 2 1 0 ", " 0 0 0;", 0, 100);
        range("sale 2 1 0 0 ", " 0 0;", 0, 20);
        range("sale 2 1 0 0 0 ", " 0;", 0, 50);
        range("sale 2 1 0 0 0 0 ", ";", 0, 1000000);
        range("sale 2 1 0 0 0 0 0;species ", " 1;", 0, 100000);
        range("sale 2 1 0 0 0 0 0;species 0 ", ";", 1, 10000);
        range("sale 2 1 0 0 0 0 0;species 0 1;plot ", ";", 0, 500);
    }

    private static void range(String before, String behind, int least, int greatest) {
        int plots = before.contains("plot") ? 1 : 0;
        good("least", before + least + behind, plots);
        good("greatest", before + greatest + behind, plots);
        bad("beyond", before + (greatest + 1) + behind, TimberSale.VALUE_ERROR, before.length());
        if (least > 0) {
            bad("below", before + (least - 1) + behind, TimberSale.VALUE_ERROR, before.length());
        }
    }

    private static void tooMany() {
        t.topic("promise 3, TOO_MANY");
        String six = "sale 200 1 0 0 0 0 0;" + "species 0 1;".repeat(6);
        good("six species", six, 0);
        bad("a seventh", six + " species 0 1;", TimberSale.TOO_MANY, six.length() + 1);
        bad("its word is enough", six + "species", TimberSale.TOO_MANY, six.length());
        bad("not another word", six + "speciesx", TimberSale.SYNTAX_ERROR, six.length());
        bad("a seventh behind a plot", six + "plot 1 2 3 4 5 6;species", TimberSale.SYNTAX_ERROR, six.length() + 17);
        String thirty = "sale 200 1 0 0 0 0 0;" + "plot;".repeat(30);
        good("thirty plots", thirty, 30);
        bad("one more", thirty + "plot;", TimberSale.TOO_MANY, thirty.length());
        String size = "sale 3 1 0 0 0 0 0;" + "plot;".repeat(3);
        good("as many as the size", size, 3);
        bad("one more than the size", size + " plot", TimberSale.TOO_MANY, size.length() + 1);
        bad("not another word", size + "plotted", TimberSale.SYNTAX_ERROR, size.length());
    }

    private static void firstErrorWins() {
        t.topic("promise 3, the first error");
        bad("value before syntax", "sale 1 x", TimberSale.VALUE_ERROR, 5);
        bad("syntax before value", "sale x 1", TimberSale.SYNTAX_ERROR, 5);
        bad("too many and out of range", "sale 2 1 0 0 0 0 0;species 1 1;plot 1 501;",
                TimberSale.SYNTAX_ERROR, 38);
        bad("out of range, then no semicolon", "sale 2 1 0 0 0 0 0;species 1 0", TimberSale.VALUE_ERROR, 29);
    }

    private static void good(String what, String text, int plots) {
        TimberSale sale = new TimberSale();
        t.due(what + " in " + text, plots, () -> Tester.load(sale, text));
        t.due("no error position: " + what, TimberSale.NONE, sale::errorPosition);
        t.due("plots: " + what, plots, sale::plotCount);
    }

    private static void bad(String what, String text, int code, int position) {
        TimberSale sale = Tester.sale(GOOD);
        t.due(what + " in " + text, code, () -> Tester.load(sale, text));
        t.due("error position: " + what + " in " + text, position, sale::errorPosition);
        t.due("the sale stays: " + what, 2, sale::plotCount);
        t.due("its species stays: " + what, 100, sale::advertise);
    }

    private static void errorPosition() {
        t.topic("promise 4");
        TimberSale sale = new TimberSale();
        t.due("at first", TimberSale.NONE, sale::errorPosition);
        t.refused("load throws", Tester.ARGUMENT, () -> sale.load(-1));
        t.due("after a throw", TimberSale.NONE, sale::errorPosition);
        Tester.load(sale, "sale !");
        t.due("after an error", 5, sale::errorPosition);
        t.refused("load throws", Tester.ARGUMENT, () -> sale.load(1));
        t.due("a throw keeps it", 5, sale::errorPosition);
        sale.addPlot(0, 0, 0, 0, 0, 0);
        t.due("other calls keep it", 5, sale::errorPosition);
        Tester.load(sale, GOOD);
        t.due("after a good text", TimberSale.NONE, sale::errorPosition);
        Tester.load(sale, "sale 1");
        sale.undo();
        t.due("undo keeps it", 5, sale::errorPosition);
    }

    private static void phase() {
        t.topic("promise 5");
        TimberSale sale = Tester.sale(GOOD);
        t.due("cruise", 0, sale::phase);
        sale.advertise();
        t.due("bidding", 1, sale::phase);
        Tester.bid(sale, 3, 1000000, 1000);
        sale.open();
        t.due("opened", 2, sale::phase);
        sale.award();
        t.due("contract", 3, sale::phase);
        sale.close();
        t.due("closed", 4, sale::phase);
        sale.undo();
        sale.scale(0, 10000, 0);
        sale.scale(0, 1, 0);
        sale.endMonth();
        sale.endMonth();
        sale.undo();
        sale.undo();
        for (int month = 0; month < 6; month++) {
            sale.endMonth();
        }
        t.refused("nothing is left", Tester.STATE, sale::advertise);
        t.due("still contract", 3, sale::phase);
        TimberSale other = Tester.sale(GOOD);
        other.advertise();
        Tester.bid(other, 3, 1000000, 1000);
        other.open();
        other.award();
        for (int month = 0; month < 6; month++) {
            other.endMonth();
        }
        other.declareDefault();
        t.due("defaulted", 5, other::phase);
        other.advertise();
        t.due("second bidding", 6, other::phase);
        Tester.bid(other, 4, 1000000, 1000);
        other.open();
        t.due("second opened", 7, other::phase);
        other.award();
        t.due("resold", 8, other::phase);
    }
}
