/** Promises 14 to 26: from the advertisement to the award. */
public final class BiddingTest {
    // Volumes 60 and 10; minimum rates 100 and 50; a deposit of 10 percent.
    private static final String TWO = "sale 10 3 10 50 5 10 5000;species 100 100;species 50 200;"
            + "plot 4 2;plot 6 1;plot 8 0;";
    // Volumes 100 and 100, no minimum rates and no deposit.
    private static final String HUNDREDS = "sale 10 1 0 0 0 0 0;species 0 1;species 0 1;plot 10 10;";
    private static final Tester t = new Tester();

    public static void main(String[] args) {
        advertise();
        volume();
        offer();
        setDeposit();
        seal();
        withdraw();
        open();
        problem();
        value();
        rank();
        turningPoint();
        turningPointAtTheEdges();
        leastWinningRate();
        leastWinningRateAtTheEdges();
        award();
        onlyInTheirPhases();
        t.end();
    }

    private static TimberSale bidding() {
        TimberSale sale = Tester.sale(TWO);
        sale.advertise();
        return sale;
    }

    /** Valid are 7 and 0 (6900 each, 7 sealed first) and 2 (6500, all at the edges). */
    private static TimberSale opened() {
        TimberSale sale = bidding();
        Tester.bid(sale, 7, 690, 100, 90);
        Tester.bid(sale, 0, 690, 105, 60);
        Tester.bid(sale, 2, 650, 100, 50);
        Tester.bid(sale, 1, 650, 100, 51);
        Tester.bid(sale, 5, 100000, 200, 49);
        Tester.bid(sale, 6, 100000, 99, 100);
        sale.offer(4, 0, 300);
        sale.open();
        return sale;
    }

    private static void advertise() {
        t.topic("promise 14");
        TimberSale sale = Tester.sale(TWO);
        t.due("the sum of the volumes", 70, sale::advertise);
        t.due("phase", 1, sale::phase);
        t.refused("twice", Tester.STATE, sale::advertise);
        t.refused("no species", Tester.STATE, () -> new TimberSale().advertise());
        TimberSale empty = Tester.sale("sale 10 3 10 50 5 10 5000;species 100 100;");
        t.due("no plots", 0, empty::advertise);
        t.due("volume without plots", 0, () -> empty.volume(0));
        TimberSale halves = Tester.sale("sale 5 1 0 0 0 0 0;species 0 1;species 0 1;plot 1 1;plot 0 2;");
        // 5 / 2 and 15 / 2, each rounded down
        t.due("rounded down by species", 9, halves::advertise);
        t.due("species 0", 2, () -> halves.volume(0));
        t.due("species 1", 7, () -> halves.volume(1));
        for (int calls = 0; calls < 3; calls++) {
            TimberSale later = opened();
            if (calls > 0) {
                later.award();
            }
            if (calls > 1) {
                later.close();
            }
            t.refused("later", Tester.STATE, later::advertise);
        }
    }

    private static void volume() {
        t.topic("promise 15");
        TimberSale sale = Tester.sale(TWO);
        t.refused("in the cruise", Tester.STATE, () -> sale.volume(0));
        t.refused("the index is named first", Tester.INDEX, () -> sale.volume(2));
        sale.advertise();
        t.due("species 0", 60, () -> sale.volume(0));
        t.due("species 1", 10, () -> sale.volume(1));
        t.refused("species 2", Tester.INDEX, () -> sale.volume(2));
        t.refused("NONE", Tester.INDEX, () -> sale.volume(TimberSale.NONE));
        TimberSale contract = opened();
        contract.award();
        contract.scale(0, 100, 0);
        t.due("the first one in the contract", 60, () -> contract.volume(0));
        contract.close();
        t.due("and when it is closed", 60, () -> contract.volume(0));
    }

    private static void offer() {
        t.topic("promise 16");
        TimberSale sale = bidding();
        t.due("at first 0", 0, () -> sale.offer(3, 1, 1000000));
        t.due("the previous one", 1000000, () -> sale.offer(3, 1, 0));
        t.due("other species", 0, () -> sale.offer(3, 0, 7));
        t.due("other bidder", 0, () -> sale.offer(2, 0, 7));
        t.due("last bidder", 0, () -> sale.offer(7, 0, 7));
        t.refused("bidder 8", Tester.INDEX, () -> sale.offer(8, 0, -1));
        t.refused("bidder -1", Tester.INDEX, () -> sale.offer(-1, 0, 1));
        t.refused("species 2", Tester.INDEX, () -> sale.offer(0, 2, 1));
        t.refused("NONE", Tester.INDEX, () -> sale.offer(0, TimberSale.NONE, 1));
        t.refused("rate -1", Tester.ARGUMENT, () -> sale.offer(0, 0, -1));
        t.refused("rate 1,000,001", Tester.ARGUMENT, () -> sale.offer(0, 0, 1000001));
        sale.seal(3);
        t.refused("sealed", Tester.STATE, () -> sale.offer(3, 0, 1));
        t.refused("the argument is named first", Tester.ARGUMENT, () -> sale.offer(3, 0, -1));
        sale.withdraw(3);
        t.due("withdrawn", 0, () -> sale.offer(3, 0, 8));
        sale.open();
        t.refused("opened", Tester.STATE, () -> sale.offer(3, 0, 1));
        t.refused("in the cruise", Tester.STATE, () -> Tester.sale(TWO).offer(3, 0, 1));
    }

    private static void setDeposit() {
        t.topic("promise 17");
        TimberSale sale = bidding();
        t.due("at first 0", 0, () -> sale.setDeposit(3, 1000000000));
        t.due("the previous one", 1000000000, () -> sale.setDeposit(3, 0));
        t.due("other bidder", 0, () -> sale.setDeposit(7, 5));
        t.refused("bidder 8", Tester.INDEX, () -> sale.setDeposit(8, -1));
        t.refused("bidder -1", Tester.INDEX, () -> sale.setDeposit(-1, 1));
        t.refused("amount -1", Tester.ARGUMENT, () -> sale.setDeposit(0, -1));
        t.refused("amount 1,000,000,001", Tester.ARGUMENT, () -> sale.setDeposit(0, 1000000001));
        sale.seal(3);
        t.refused("sealed", Tester.STATE, () -> sale.setDeposit(3, 1));
        t.refused("the argument is named first", Tester.ARGUMENT, () -> sale.setDeposit(3, -1));
        sale.open();
        t.refused("opened", Tester.STATE, () -> sale.setDeposit(2, 1));
        t.refused("in the cruise", Tester.STATE, () -> Tester.sale(TWO).setDeposit(3, 1));
    }

    private static void seal() {
        t.topic("promise 18");
        TimberSale sale = bidding();
        t.due("the first", 1, () -> sale.seal(7));
        t.due("the second", 2, () -> sale.seal(0));
        t.refused("twice", Tester.STATE, () -> sale.seal(7));
        sale.withdraw(7);
        t.due("the numbers go on", 3, () -> sale.seal(7));
        t.refused("bidder 8", Tester.INDEX, () -> sale.seal(8));
        t.refused("bidder -1", Tester.INDEX, () -> sale.seal(-1));
        sale.open();
        t.refused("opened", Tester.STATE, () -> sale.seal(1));
        t.refused("in the cruise", Tester.STATE, () -> Tester.sale(TWO).seal(1));
    }

    private static void withdraw() {
        t.topic("promise 19");
        TimberSale sale = bidding();
        t.refused("not sealed", Tester.STATE, () -> sale.withdraw(0));
        Tester.bid(sale, 0, 690, 105, 60);
        Tester.bid(sale, 1, 650, 100, 50);
        sale.withdraw(0);
        t.refused("not sealed any more", Tester.STATE, () -> sale.withdraw(0));
        t.due("rate 0", 0, () -> sale.offer(0, 0, 5));
        t.due("rate 1", 0, () -> sale.offer(0, 1, 5));
        t.due("deposit", 0, () -> sale.setDeposit(0, 5));
        t.refused("bidder 8", Tester.INDEX, () -> sale.withdraw(8));
        t.refused("bidder -1", Tester.INDEX, () -> sale.withdraw(-1));
        sale.open();
        t.refused("opened", Tester.STATE, () -> sale.withdraw(1));
        t.due("it is not sealed", 1, () -> sale.problem(0));
        t.due("the other bid stays", 1, () -> sale.rank(1));
        t.refused("in the cruise", Tester.STATE, () -> Tester.sale(TWO).withdraw(0));
    }

    private static void open() {
        t.topic("promise 20");
        TimberSale sale = bidding();
        Tester.bid(sale, 0, 690, 105, 60);
        Tester.bid(sale, 1, 650, 100, 50);
        Tester.bid(sale, 2, 649, 100, 50);
        t.due("valid bids", 2, sale::open);
        t.due("phase", 2, sale::phase);
        t.refused("twice", Tester.STATE, sale::open);
        t.due("no bids", 0, () -> bidding().open());
        t.refused("in the cruise", Tester.STATE, () -> Tester.sale(TWO).open());
    }

    private static void problem() {
        t.topic("promise 21");
        TimberSale sale = opened();
        t.due("valid", 0, () -> sale.problem(7));
        t.due("at the least rates and deposit", 0, () -> sale.problem(2));
        t.due("not sealed, without a bid", 1, () -> sale.problem(3));
        t.due("not sealed, with rates", 1, () -> sale.problem(4));
        t.due("low rate of species 1", 2, () -> sale.problem(5));
        t.due("low rate of species 0", 2, () -> sale.problem(6));
        t.due("low deposit", 3, () -> sale.problem(1));
        t.refused("bidder 8", Tester.INDEX, () -> sale.problem(8));
        t.refused("bidder -1", Tester.INDEX, () -> sale.problem(-1));
        TimberSale both = bidding();
        Tester.bid(both, 0, 0, 1000, 49);
        both.open();
        t.due("the first of two problems", 2, () -> both.problem(0));
    }

    private static void value() {
        t.topic("promise 22");
        TimberSale sale = opened();
        t.due("100, 90", 6900, () -> sale.value(7));
        t.due("105, 60", 6900, () -> sale.value(0));
        t.due("of a bid with a problem", 12490, () -> sale.value(5));
        t.due("of a bid that is not sealed", 18000, () -> sale.value(4));
        t.due("of no bid", 0, () -> sale.value(3));
        t.refused("bidder 8", Tester.INDEX, () -> sale.value(8));
        t.refused("bidder -1", Tester.INDEX, () -> sale.value(-1));
        TimberSale great = Tester.sale("sale 200 1 50 0 0 0 0;" + "species 0 1;".repeat(6)
                + "plot 500 500 500 500 500 500;");
        great.advertise();
        Tester.bid(great, 0, 1000000000, 1000000, 1000000, 1000000, 1000000, 1000000, 1000000);
        great.open();
        t.due("the greatest value", 600000000000L, () -> great.value(0));
        t.due("its deposit is too low", 3, () -> great.problem(0));
    }

    private static void rank() {
        t.topic("promise 23");
        TimberSale sale = opened();
        t.due("the winner was sealed first", 1, () -> sale.rank(7));
        t.due("the same value", 2, () -> sale.rank(0));
        t.due("the next", 3, () -> sale.rank(2));
        for (int bidder : new int[] {1, 3, 4, 5, 6}) {
            t.due("not valid: " + bidder, 0, () -> sale.rank(bidder));
        }
        t.refused("bidder 8", Tester.INDEX, () -> sale.rank(8));
        t.refused("bidder -1", Tester.INDEX, () -> sale.rank(-1));
    }

    private static void turningPoint() {
        t.topic("promise 24");
        TimberSale sale = opened();
        // With 1 percent more the volume is 60 still; with 2 percent it is 61.
        t.due("species 0", 2, () -> sale.turningPoint(0));
        // With 1 percent less the volume is 9.
        t.due("species 1", -1, () -> sale.turningPoint(1));
        t.refused("species 2", Tester.INDEX, () -> sale.turningPoint(2));
        t.refused("NONE", Tester.INDEX, () -> sale.turningPoint(TimberSale.NONE));
        TimberSale none = bidding();
        Tester.bid(none, 0, 0, 100, 50);
        none.open();
        t.refused("no valid bid", Tester.ELEMENT, () -> none.turningPoint(0));
        TimberSale one = bidding();
        Tester.bid(one, 0, 650, 100, 50);
        Tester.bid(one, 1, 0, 200, 50);
        one.open();
        t.refused("no other valid bid", Tester.ELEMENT, () -> one.turningPoint(0));
        TimberSale three = hundreds();
        Tester.bid(three, 0, 0, 10, 10);
        Tester.bid(three, 1, 0, 11, 9);
        three.seal(2);
        three.open();
        t.due("only more", 1, () -> three.turningPoint(0));
        t.due("only less", -1, () -> three.turningPoint(1));
        TimberSale four = hundreds();
        Tester.bid(four, 0, 0, 10, 10);
        Tester.bid(four, 1, 0, 11, 9);
        Tester.bid(four, 2, 0, 9, 11);
        four.open();
        t.due("both ways, the negative one", -1, () -> four.turningPoint(0));
        t.due("both ways, other species", -1, () -> four.turningPoint(1));
        TimberSale far = hundreds();
        Tester.bid(far, 0, 0, 10, 100);
        Tester.bid(far, 1, 0, 20, 70);
        Tester.bid(far, 2, 0, 110, 1);
        Tester.bid(far, 3, 0, 0, 109);
        far.open();
        // 0 has 11000, 1 has 9000, 2 has 11100 and wins; 0 leads it below 99, 3 has 10900.
        t.due("the nearest of several", -1, () -> far.turningPoint(0));
        // 99 * more than 100: with 102 the bids 0 and 2 have 11200 and 11102.
        t.due("the nearest of several, more", 2, () -> far.turningPoint(1));
    }

    private static void turningPointAtTheEdges() {
        t.topic("promise 24, edges");
        TimberSale least = hundreds();
        Tester.bid(least, 1, 0, 0, 0);
        Tester.bid(least, 0, 0, 10, 0);
        least.open();
        t.due("all the volume", -100, () -> least.turningPoint(0));
        t.refused("the other species has no rates", Tester.ELEMENT, () -> least.turningPoint(1));
        TimberSale late = hundreds();
        Tester.bid(late, 0, 0, 10, 0);
        Tester.bid(late, 1, 0, 0, 0);
        late.open();
        t.refused("sealed too late", Tester.ELEMENT, () -> late.turningPoint(0));
        TimberSale twice = hundreds();
        Tester.bid(twice, 1, 0, 5, 0);
        Tester.bid(twice, 0, 0, 0, 10);
        twice.open();
        t.due("twice the volume", 100, () -> twice.turningPoint(0));
        t.due("half the volume", -50, () -> twice.turningPoint(1));
        TimberSale more = hundreds();
        Tester.bid(more, 0, 0, 0, 10);
        Tester.bid(more, 1, 0, 5, 0);
        more.open();
        t.refused("more than twice", Tester.ELEMENT, () -> more.turningPoint(0));
        t.due("less than half", -51, () -> more.turningPoint(1));
        // With less than 96, more than 102 or less than 97 the bidders 0, 1 and 2 lead.
        TimberSale several = hundreds();
        Tester.bid(several, 3, 0, 100, 200);
        Tester.bid(several, 0, 0, 0, 296);
        Tester.bid(several, 1, 0, 200, 98);
        Tester.bid(several, 2, 0, 0, 297);
        several.open();
        t.due("the least of several", 3, () -> several.turningPoint(0));
        // The deposit stands for the volume as it is: with more volume the bid stays valid.
        TimberSale deposit = bidding();
        Tester.bid(deposit, 0, 690, 100, 90);
        Tester.bid(deposit, 1, 690, 105, 60);
        deposit.open();
        t.due("the valid bids stay", 2, () -> deposit.turningPoint(0));
    }

    private static TimberSale hundreds() {
        TimberSale sale = Tester.sale(HUNDREDS);
        sale.advertise();
        return sale;
    }

    private static void leastWinningRate() {
        t.topic("promise 25");
        TimberSale sale = opened();
        // 0 was sealed behind 7 and so needs more than 6900: 60 * r + 600 >= 6901, but its deposit is 690.
        t.refused("the deposit is too low", Tester.ELEMENT, () -> sale.leastWinningRate(0, 0));
        // 7 needs 6900: 60 * r + 900 >= 6900 and 6000 + 10 * r >= 6900.
        t.due("the winner, species 0", 100, () -> sale.leastWinningRate(7, 0));
        t.due("the winner, species 1", 90, () -> sale.leastWinningRate(7, 1));
        // 5 has 12000 from species 0 and needs the minimum rate only.
        t.due("a bid that is too low", 50, () -> sale.leastWinningRate(5, 1));
        t.refused("another rate is too low", Tester.ELEMENT, () -> sale.leastWinningRate(5, 0));
        // 6 needs 60 * r + 1000 >= 6901: 99, but the minimum is 100.
        t.due("the minimum rate", 100, () -> sale.leastWinningRate(6, 0));
        t.refused("its other rate is too low", Tester.ELEMENT, () -> sale.leastWinningRate(6, 1));
        t.refused("not sealed", Tester.ELEMENT, () -> sale.leastWinningRate(4, 0));
        t.refused("no bid", Tester.ELEMENT, () -> sale.leastWinningRate(3, 0));
        t.refused("bidder 8", Tester.INDEX, () -> sale.leastWinningRate(8, 0));
        t.refused("bidder -1", Tester.INDEX, () -> sale.leastWinningRate(-1, 0));
        t.refused("species 2", Tester.INDEX, () -> sale.leastWinningRate(0, 2));
        t.refused("NONE", Tester.INDEX, () -> sale.leastWinningRate(0, TimberSale.NONE));
        TimberSale other = bidding();
        Tester.bid(other, 0, 1000, 105, 60);
        Tester.bid(other, 1, 1000, 100, 50);
        other.open();
        // 1 was sealed behind 0: 60 * r + 500 >= 6901 and 6000 + 10 * r >= 6901.
        t.due("rounded up, species 0", 107, () -> other.leastWinningRate(1, 0));
        t.due("rounded up, species 1", 91, () -> other.leastWinningRate(1, 1));
        // 0 was sealed before 1 and has 6300 from species 0 already.
        t.due("far ahead", 50, () -> other.leastWinningRate(0, 1));
    }

    private static void leastWinningRateAtTheEdges() {
        t.topic("promise 25, edges");
        TimberSale sale = Tester.sale("sale 2 1 0 0 0 0 0;species 0 1;species 0 1;species 7 1;plot 1 500 0;");
        sale.advertise();
        Tester.bid(sale, 0, 0, 0, 4000, 7);
        Tester.bid(sale, 1, 0, 0, 0, 7);
        Tester.bid(sale, 2, 0, 1000, 4000, 7);
        sale.open();
        // Volumes 2, 1000 and 0; 2 leads with 4002000, but 0 and 1 were sealed before it.
        t.due("an equal value is enough", 1000, () -> sale.leastWinningRate(0, 0));
        t.due("winning with 0 is not enough", 1, () -> sale.leastWinningRate(2, 0));
        t.refused("more than 1,000,000", Tester.ELEMENT, () -> sale.leastWinningRate(1, 0));
        t.refused("a species without volume", Tester.ELEMENT, () -> sale.leastWinningRate(0, 2));
        t.due("the winner, without volume", 7, () -> sale.leastWinningRate(2, 2));
        t.due("species 1", 4002, () -> sale.leastWinningRate(1, 1));
        TimberSale edge = Tester.sale("sale 2 1 0 0 0 0 0;species 0 1;species 0 1;plot 1 500;");
        edge.advertise();
        Tester.bid(edge, 1, 0, 0, 0);
        Tester.bid(edge, 0, 0, 0, 2000);
        edge.open();
        t.due("just 1,000,000", 1000000, () -> edge.leastWinningRate(1, 0));
        TimberSale alone = hundreds();
        alone.seal(4);
        alone.open();
        t.due("alone with 0", 0, () -> alone.leastWinningRate(4, 0));
        TimberSale nothing = Tester.sale("sale 2 1 0 0 0 0 0;species 7 1;");
        nothing.advertise();
        Tester.bid(nothing, 4, 0, 0);
        nothing.open();
        t.due("no volume at all", 7, () -> nothing.leastWinningRate(4, 0));
        TimberSale ones = Tester.sale("sale 2 1 0 0 0 0 0;species 0 1;plot 1;plot 0;");
        ones.advertise();
        Tester.bid(ones, 0, 0, 500);
        Tester.bid(ones, 1, 0, 600);
        Tester.bid(ones, 2, 0, 0);
        ones.open();
        t.due("sealed before: as much", 600, () -> ones.leastWinningRate(0, 0));
        t.due("sealed behind: 1 more", 601, () -> ones.leastWinningRate(2, 0));
        t.due("the winner needs 1 more than the second", 501, () -> ones.leastWinningRate(1, 0));
        TimberSale deposit = bidding();
        Tester.bid(deposit, 0, 690, 100, 90);
        Tester.bid(deposit, 1, 691, 100, 50);
        deposit.open();
        // 1 needs 6901 or more and may bid 6910: 6000 + 10 * 91.
        t.due("just within the deposit", 91, () -> deposit.leastWinningRate(1, 1));
        t.refused("60 * 107 + 500 is beyond it", Tester.ELEMENT, () -> deposit.leastWinningRate(1, 0));
    }

    private static void award() {
        t.topic("promise 26");
        TimberSale sale = opened();
        t.due("the winner", 7, sale::award);
        t.due("phase", 3, sale::phase);
        t.due("its rate of species 0", 100, () -> sale.rate(0, 0));
        t.due("its rate of species 1", 90, () -> sale.rate(1, 0));
        t.refused("twice", Tester.STATE, sale::award);
        t.refused("before the opening", Tester.STATE, () -> bidding().award());
        t.refused("in the cruise", Tester.STATE, () -> Tester.sale(TWO).award());
        TimberSale none = bidding();
        Tester.bid(none, 0, 0, 100, 50);
        none.open();
        t.refused("no valid bid", Tester.ELEMENT, none::award);
        t.due("the phase stays", 2, none::phase);
    }

    private static void onlyInTheirPhases() {
        t.topic("promises 21 to 25, phases");
        TimberSale sale = opened();
        sale.award();
        askable("contract", sale);
        sale.close();
        askable("closed", sale);
        TimberSale cruise = Tester.sale(TWO);
        refusing("cruise", cruise);
        cruise.advertise();
        refusing("bidding", cruise);
    }

    private static void askable(String phase, TimberSale sale) {
        t.due(phase + ": problem", 3, () -> sale.problem(1));
        t.due(phase + ": value", 6900, () -> sale.value(7));
        t.due(phase + ": rank", 2, () -> sale.rank(0));
        t.due(phase + ": turningPoint", 2, () -> sale.turningPoint(0));
        t.due(phase + ": leastWinningRate", 90, () -> sale.leastWinningRate(7, 1));
    }

    private static void refusing(String phase, TimberSale sale) {
        t.refused(phase + ": problem", Tester.STATE, () -> sale.problem(1));
        t.refused(phase + ": value", Tester.STATE, () -> sale.value(7));
        t.refused(phase + ": rank", Tester.STATE, () -> sale.rank(0));
        t.refused(phase + ": turningPoint", Tester.STATE, () -> sale.turningPoint(0));
        t.refused(phase + ": leastWinningRate", Tester.STATE, () -> sale.leastWinningRate(7, 1));
        t.refused(phase + ": problem of 8", Tester.INDEX, () -> sale.problem(8));
        t.refused(phase + ": value of 8", Tester.INDEX, () -> sale.value(8));
        t.refused(phase + ": rank of 8", Tester.INDEX, () -> sale.rank(8));
        t.refused(phase + ": turningPoint of 2", Tester.INDEX, () -> sale.turningPoint(2));
        t.refused(phase + ": leastWinningRate of 8", Tester.INDEX, () -> sale.leastWinningRate(8, 1));
    }
}
