import java.util.Arrays;
import java.util.NoSuchElementException;

/**
 * A timber sale from the cruise to the last payment.
 *
 * Every public method looks at its arguments first, in the order in which the document names the
 * exceptions; only then does it keep the present sale for undo and change it. So a call that throws
 * changes nothing, and the classes inside may rely on good numbers.
 */
public final class TimberSale {

    public static final int NONE = -1;
    public static final int SYNTAX_ERROR = -2;
    public static final int VALUE_ERROR = -3;
    public static final int TOO_MANY = -4;

    private static final int CRUISE = 0;
    private static final int BIDDING = 1;
    private static final int OPENED = 2;
    private static final int CONTRACT = 3;
    private static final int CLOSED = 4;
    private static final int DEFAULTED = 5;
    private static final int SECOND_BIDDING = 6;
    private static final int SECOND_OPENED = 7;
    private static final int RESOLD = 8;

    private static final int MAX_SPECIES = 6;
    private static final int MAX_PLOTS = 30;
    private static final int MAX_PLOT_VOLUME = 500;
    private static final int MAX_PERCENT = 20;
    private static final int BIDDERS = 8;
    private static final int MAX_RATE = 1_000_000;
    private static final int MAX_AMOUNT = 1_000_000_000;
    private static final int QUARTERS = 12;
    private static final int MONTHS_OF_QUARTER = 3;
    private static final int MONTHS = 36;
    private static final int MAX_PROJECTED_MONTHS = 12;
    private static final int MAX_INDEX = 10_000;
    private static final int MAX_LOADS = 60;
    private static final int MAX_GROSS = 10_000;
    private static final int MAX_DEFECT = 100;
    private static final int MAX_MINIMUM_RATE = 100_000;
    private static final int TEXT_BYTES = 800;
    private static final int UNDO_DEPTH = 8;

    // The numbers of a sale, in the order in which a text has them.
    private static final int SIZE = 0;
    private static final int TERM = 1;
    private static final int DEPOSIT_PERCENT = 2;
    private static final int INDEX_SHARE = 3;
    private static final int TOLERANCE = 4;
    private static final int INTEREST = 5;
    private static final int RESALE_COSTS = 6;
    private static final int SALE_NUMBERS = 7;
    private static final int[] LEAST_NUMBERS = {2, 1, 0, 0, 0, 0, 0};
    private static final int[] GREATEST_NUMBERS = {200, 35, 50, 100, 20, 50, 1_000_000};

    private final Reader reader;
    private final History history;
    private Sale sale;
    private Sale draft;

    public TimberSale() {
        reader = new Reader();
        history = new History();
        sale = new Sale();
        draft = new Sale();
    }

    // ---- setup

    public int append(int a, int b, int c, int d, int e) throws IllegalStateException {
        requireState(reader.hasRoom());
        reader.take(a);
        reader.take(b);
        reader.take(c);
        reader.take(d);
        reader.take(e);
        return reader.size;
    }

    public int load(int length) throws IllegalArgumentException {
        requireArgument(isIn(length, 0, reader.size));
        int answer = reader.readInto(draft, length);
        if (answer >= 0) {
            history.keep(sale);
            Sale replaced = sale;
            sale = draft;
            draft = replaced;
        }
        return answer;
    }

    public int errorPosition() {
        return reader.errorPosition;
    }

    public int phase() {
        return sale.phase;
    }

    // ---- cruise

    public int plotCount() {
        return sale.cruise.plots;
    }

    public int addPlot(int a, int b, int c, int d, int e, int f)
            throws IllegalArgumentException, IllegalStateException {
        requireArgument(fitsPlot(0, a) && fitsPlot(1, b) && fitsPlot(2, c)
                && fitsPlot(3, d) && fitsPlot(4, e) && fitsPlot(5, f));
        int most = Math.min(MAX_PLOTS, sale.terms.numbers[SIZE]);
        requireState(sale.phase == CRUISE && sale.cruise.plots < most);
        history.keep(sale);
        sale.cruise.add(a, b, c, d, e, f);
        return sale.cruise.plots;
    }

    public int removePlot(int plot) throws IndexOutOfBoundsException, IllegalStateException {
        requireExisting(isIn(plot, 0, sale.cruise.plots - 1));
        requireState(sale.phase == CRUISE);
        history.keep(sale);
        sale.cruise.remove(plot);
        return sale.cruise.plots;
    }

    public long estimate(int species, boolean denominator)
            throws IndexOutOfBoundsException, IllegalStateException {
        requireExisting(isSpeciesOrNone(species));
        requireState(sale.cruise.plots >= 1);
        long dividend = sale.terms.numbers[SIZE] * sale.cruise.total(species);
        return lowestTerms(dividend, sale.cruise.plots, denominator);
    }

    public long squaredError(int species, boolean denominator)
            throws IndexOutOfBoundsException, IllegalStateException {
        requireExisting(isSpeciesOrNone(species));
        requireState(sale.cruise.plots >= 2);
        long size = sale.terms.numbers[SIZE];
        long plots = sale.cruise.plots;
        long dividend = size * (size - plots) * sale.cruise.spread(species);
        return lowestTerms(dividend, plots * plots * (plots - 1), denominator);
    }

    public boolean isAccurate(int species, int percent)
            throws IndexOutOfBoundsException, IllegalArgumentException, IllegalStateException {
        requireAccuracyQuestion(species, percent);
        int size = sale.terms.numbers[SIZE];
        int plots = sale.cruise.plots;
        long error = sale.cruise.weightedError(species);
        long allowance = sale.cruise.allowance(species, percent, size);
        return error * (size - plots) <= allowance * plots;
    }

    public int neededPlots(int species, int percent)
            throws IndexOutOfBoundsException, IllegalArgumentException, IllegalStateException {
        requireAccuracyQuestion(species, percent);
        int size = sale.terms.numbers[SIZE];
        long error = sale.cruise.weightedError(species);
        long allowance = sale.cruise.allowance(species, percent, size);
        for (int plots = 1; plots < size; plots++) {
            if (error * (size - plots) <= allowance * plots) {
                return plots;
            }
        }
        return size;
    }

    public int mostInfluentialPlot(int species)
            throws IndexOutOfBoundsException, IllegalStateException {
        requireExisting(isSpeciesOrNone(species));
        requireState(sale.cruise.plots >= 2);
        return sale.cruise.mostInfluential(species);
    }

    // ---- bidding

    public int advertise() throws IllegalStateException {
        requireState((sale.phase == CRUISE || sale.phase == DEFAULTED)
                && sale.terms.speciesCount > 0);
        history.keep(sale);
        if (sale.phase == CRUISE) {
            sale.beginBidding();
        } else {
            sale.beginSecondBidding();
        }
        return sum(sale.bidding.volumes);
    }

    public int volume(int species) throws IndexOutOfBoundsException, IllegalStateException {
        requireExisting(isSpecies(species));
        requireState(sale.phase != CRUISE);
        return sale.bidding.volumes[species];
    }

    public int offer(int bidder, int species, int rate)
            throws IndexOutOfBoundsException, IllegalArgumentException, IllegalStateException {
        requireExisting(isBidder(bidder) && isSpecies(species));
        requireArgument(isIn(rate, 0, MAX_RATE));
        requireState(sale.isBidding() && !sale.bidding.isSealed(bidder));
        history.keep(sale);
        int previous = sale.bidding.rateOf(bidder, species);
        sale.bidding.setRate(bidder, species, rate);
        return previous;
    }

    public int setDeposit(int bidder, int amount)
            throws IndexOutOfBoundsException, IllegalArgumentException, IllegalStateException {
        requireExisting(isBidder(bidder));
        requireArgument(isIn(amount, 0, MAX_AMOUNT));
        requireState(sale.isBidding() && !sale.bidding.isSealed(bidder));
        history.keep(sale);
        int previous = sale.bidding.deposits[bidder];
        sale.bidding.deposits[bidder] = amount;
        return previous;
    }

    public int seal(int bidder) throws IndexOutOfBoundsException, IllegalStateException {
        requireExisting(isBidder(bidder));
        requireState(sale.isBidding() && !sale.bidding.isSealed(bidder));
        history.keep(sale);
        return sale.bidding.sealNext(bidder);
    }

    public void withdraw(int bidder) throws IndexOutOfBoundsException, IllegalStateException {
        requireExisting(isBidder(bidder));
        requireState(sale.isBidding() && sale.bidding.isSealed(bidder));
        history.keep(sale);
        sale.bidding.delete(bidder);
    }

    public int open() throws IllegalStateException {
        requireState(sale.isBidding());
        history.keep(sale);
        sale.phase = sale.phase == BIDDING ? OPENED : SECOND_OPENED;
        return sale.bidding.validBids(sale.terms);
    }

    public int problem(int bidder) throws IndexOutOfBoundsException, IllegalStateException {
        requireExisting(isBidder(bidder));
        requireState(sale.hasOpenBids());
        return sale.bidding.problemOf(bidder, sale.terms);
    }

    public long value(int bidder) throws IndexOutOfBoundsException, IllegalStateException {
        requireExisting(isBidder(bidder));
        requireState(sale.hasOpenBids());
        return sale.bidding.valueOf(bidder);
    }

    public int rank(int bidder) throws IndexOutOfBoundsException, IllegalStateException {
        requireExisting(isBidder(bidder));
        requireState(sale.hasOpenBids());
        return sale.bidding.rankOf(bidder, sale.terms);
    }

    public int turningPoint(int species)
            throws IndexOutOfBoundsException, IllegalStateException, NoSuchElementException {
        requireExisting(isSpecies(species));
        requireState(sale.hasOpenBids());
        int winner = sale.bidding.winner(sale.terms);
        requireFound(winner != NONE);
        int change = sale.bidding.leastTurningChange(winner, species, sale.terms);
        requireFound(change != 0);
        return change;
    }

    public int leastWinningRate(int bidder, int species)
            throws IndexOutOfBoundsException, IllegalStateException, NoSuchElementException {
        requireExisting(isBidder(bidder) && isSpecies(species));
        requireState(sale.hasOpenBids());
        int found = sale.bidding.leastRateToWin(bidder, species, sale.terms);
        requireFound(found != NONE);
        return found;
    }

    public int award() throws IllegalStateException, NoSuchElementException {
        requireState(sale.phase == OPENED || sale.phase == SECOND_OPENED);
        int winner = sale.bidding.winner(sale.terms);
        requireFound(winner != NONE);
        history.keep(sale);
        if (sale.phase == OPENED) {
            sale.beginContract(winner);
        } else {
            sale.phase = RESOLD;
        }
        return winner;
    }

    // ---- contract

    public void setIndex(int quarter, int species, int index)
            throws IndexOutOfBoundsException, IllegalArgumentException, IllegalStateException {
        requireExisting(isQuarter(quarter) && isSpecies(species));
        requireArgument(isIn(index, 1, MAX_INDEX));
        requireState(sale.phase == CONTRACT);
        history.keep(sale);
        sale.contract.setIndexOf(species, quarter, index);
    }

    public int rate(int species, int quarter)
            throws IndexOutOfBoundsException, IllegalStateException {
        requireExisting(isSpecies(species) && isQuarter(quarter));
        requireState(sale.hasContract());
        return sale.contract.adjustedRate(species, quarter, sale.terms);
    }

    public int indexFor(int species, int rate)
            throws IndexOutOfBoundsException, IllegalArgumentException, IllegalStateException,
            NoSuchElementException {
        requireExisting(isSpecies(species));
        requireArgument(isIn(rate, 0, MAX_RATE));
        requireState(sale.hasContract());
        int found = sale.contract.leastIndexFor(species, rate, sale.terms);
        requireFound(found != NONE);
        return found;
    }

    public int scale(int species, int gross, int defect)
            throws IndexOutOfBoundsException, IllegalArgumentException, IllegalStateException {
        requireExisting(isSpecies(species));
        requireArgument(isIn(gross, 1, MAX_GROSS) && isIn(defect, 0, MAX_DEFECT));
        requireState(sale.phase == CONTRACT && sale.loads.count < MAX_LOADS);
        history.keep(sale);
        sale.loads.add(species, sale.contract.month, netVolume(gross, defect));
        return sale.loads.count - 1;
    }

    public int check(int load, int gross, int defect)
            throws IndexOutOfBoundsException, IllegalArgumentException, IllegalStateException {
        requireExisting(isLoad(load));
        requireArgument(isIn(gross, 1, MAX_GROSS) && isIn(defect, 0, MAX_DEFECT));
        requireState(sale.phase == CONTRACT && !sale.loads.isChecked(load));
        history.keep(sale);
        int checked = netVolume(gross, defect);
        sale.loads.setCheck(load, checked);
        return checked - sale.loads.nets[load];
    }

    public int voidLoad(int load) throws IndexOutOfBoundsException, IllegalStateException {
        requireExisting(isLoad(load));
        requireState(sale.phase == CONTRACT && sale.loads.months[load] == sale.contract.month
                && !sale.loads.isChecked(load));
        history.keep(sale);
        sale.loads.remove(load);
        return sale.loads.count;
    }

    public int worstCheck() throws NoSuchElementException {
        int worst = sale.loads.worstChecked();
        requireFound(worst != NONE);
        return worst;
    }

    public int scaled(int species, int from, int to)
            throws IndexOutOfBoundsException, IllegalArgumentException, IllegalStateException {
        requireExisting(isSpeciesOrNone(species));
        requireArgument(isIn(from, 0, MONTHS) && isIn(to, from, MONTHS));
        requireState(sale.hasContract());
        return sale.loads.netSum(species, from, to);
    }

    public long cutShare(boolean denominator) throws IllegalStateException {
        requireState(sale.hasContract());
        long tenths = 10L * sum(sale.contract.volumes);
        if (tenths == 0) {
            return denominator ? 1 : 0;
        }
        return lowestTerms(sale.loads.netSum(NONE, 0, MONTHS), tenths, denominator);
    }

    public int net(int load) throws IndexOutOfBoundsException {
        requireExisting(isLoad(load));
        return sale.loads.nets[load];
    }

    public int factor(boolean denominator) {
        int tolerance = sale.terms.numbers[TOLERANCE];
        long dividend = sale.loads.factorDividend(tolerance);
        return (int) lowestTerms(dividend, sale.loads.factorDivisor(tolerance), denominator);
    }

    public int month() {
        return sale.contract.month;
    }

    public long endMonth() throws IllegalStateException {
        requireState(sale.phase == CONTRACT && sale.contract.month < MONTHS - 1);
        history.keep(sale);
        sale.bookMonth();
        sale.contract.month++;
        return sale.contract.debt;
    }

    public long charge(int month) throws IndexOutOfBoundsException, IllegalStateException {
        requireExisting(isIn(month, 0, sale.contract.month));
        requireState(sale.hasContract());
        return sale.chargeOf(month);
    }

    public long pay(int amount) throws IllegalArgumentException, IllegalStateException {
        requireArgument(isIn(amount, 1, MAX_AMOUNT));
        requireState(sale.phase == CONTRACT || sale.phase == CLOSED);
        history.keep(sale);
        sale.contract.debt -= amount;
        return sale.contract.debt;
    }

    public long debt() {
        return sale.contract.debt;
    }

    public long projectedDebt(int months) throws IllegalArgumentException, IllegalStateException {
        requireArgument(isIn(months, 1, MAX_PROJECTED_MONTHS));
        requireState(sale.phase == CONTRACT);
        long projected = sale.withInterest(sale.contract.debt) + sale.chargeOf(sale.contract.month);
        for (int ended = 1; ended < months; ended++) {
            projected = sale.withInterest(projected);
        }
        return projected;
    }

    public long adjustment() {
        return sale.unbooked();
    }

    public long close() throws IllegalStateException {
        requireState(sale.phase == CONTRACT);
        history.keep(sale);
        sale.closeContract();
        return sale.contract.debt;
    }

    public int remaining(int species) throws IndexOutOfBoundsException, IllegalStateException {
        requireExisting(isSpecies(species));
        requireState(sale.hasContract());
        return sale.remainingOf(species);
    }

    // ---- default and resale

    public int declareDefault() throws IllegalStateException {
        requireState(sale.phase == CONTRACT && sale.isInDefault());
        history.keep(sale);
        sale.phase = DEFAULTED;
        return sale.remainingSum();
    }

    public long damages() throws IllegalStateException {
        requireState(sale.phase == RESOLD);
        return sale.lossByResale();
    }

    public int undo() throws IllegalStateException {
        requireState(history.kept > 0);
        sale = history.takeBack(sale);
        return history.kept;
    }

    // ---- what the methods ask before they act

    private static void requireExisting(boolean holds) {
        if (!holds) {
            throw new IndexOutOfBoundsException("a thing with this number does not exist");
        }
    }

    private static void requireArgument(boolean holds) {
        if (!holds) {
            throw new IllegalArgumentException("a number is out of its range");
        }
    }

    private static void requireState(boolean holds) {
        if (!holds) {
            throw new IllegalStateException("the sale does not allow this now");
        }
    }

    private static void requireFound(boolean holds) {
        if (!holds) {
            throw new NoSuchElementException("there is none");
        }
    }

    private void requireAccuracyQuestion(int species, int percent) {
        requireExisting(isSpeciesOrNone(species));
        requireArgument(isIn(percent, 1, MAX_PERCENT));
        requireState(sale.cruise.plots >= 2);
    }

    private static boolean isIn(int number, int least, int greatest) {
        return number >= least && number <= greatest;
    }

    private boolean isSpecies(int species) {
        return isIn(species, 0, sale.terms.speciesCount - 1);
    }

    private boolean isSpeciesOrNone(int species) {
        return species == NONE || isSpecies(species);
    }

    private static boolean isBidder(int bidder) {
        return isIn(bidder, 0, BIDDERS - 1);
    }

    private static boolean isQuarter(int quarter) {
        return isIn(quarter, 0, QUARTERS - 1);
    }

    private boolean isLoad(int load) {
        return isIn(load, 0, sale.loads.count - 1);
    }

    private boolean fitsPlot(int species, int volume) {
        return isIn(volume, 0, isSpecies(species) ? MAX_PLOT_VOLUME : 0);
    }

    // ---- arithmetic

    private static int netVolume(int gross, int defect) {
        return (gross * (100 - defect) + 50) / 100;
    }

    private static int sum(int[] numbers) {
        int total = 0;
        for (int number : numbers) {
            total += number;
        }
        return total;
    }

    private static long lowestTerms(long dividend, long divisor, boolean denominator) {
        long common = commonDivisor(dividend, divisor);
        if (common == 0) {
            return denominator ? 1 : 0;
        }
        return (denominator ? divisor : dividend) / common;
    }

    private static long commonDivisor(long a, long b) {
        long greater = a;
        long less = b;
        // Euclid's way needs at most 91 steps for two longs.
        for (int step = 0; step < 100 && less != 0; step++) {
            long rest = greater % less;
            greater = less;
            less = rest;
        }
        return greater;
    }

    private static void copy(int[] from, int[] to) {
        System.arraycopy(from, 0, to, 0, Math.min(from.length, to.length));
    }

    /** The numbers of the sale and of its species, which only a text sets. */
    private static final class Terms {
        int speciesCount;
        final int[] numbers;
        final int[] minimumRates;
        final int[] baseIndexes;

        Terms() {
            numbers = new int[SALE_NUMBERS];
            minimumRates = new int[MAX_SPECIES];
            baseIndexes = new int[MAX_SPECIES];
            // What a new sale has is the least that each number may be.
            copy(LEAST_NUMBERS, numbers);
        }

        void clear() {
            speciesCount = 0;
            copy(LEAST_NUMBERS, numbers);
            Arrays.fill(minimumRates, 0);
            Arrays.fill(baseIndexes, 0);
        }

        void copyFrom(Terms other) {
            speciesCount = other.speciesCount;
            copy(other.numbers, numbers);
            copy(other.minimumRates, minimumRates);
            copy(other.baseIndexes, baseIndexes);
        }
    }

    /** The sample plots. Species that do not exist have the volume 0 in every plot. */
    private static final class Cruise {
        int plots;
        final int[] volumes;

        Cruise() {
            volumes = new int[MAX_PLOTS * MAX_SPECIES];
        }

        void clear() {
            plots = 0;
            Arrays.fill(volumes, 0);
        }

        void copyFrom(Cruise other) {
            plots = other.plots;
            copy(other.volumes, volumes);
        }

        void add(int a, int b, int c, int d, int e, int f) {
            int row = plots * MAX_SPECIES;
            volumes[row] = a;
            volumes[row + 1] = b;
            volumes[row + 2] = c;
            volumes[row + 3] = d;
            volumes[row + 4] = e;
            volumes[row + 5] = f;
            plots++;
        }

        void remove(int plot) {
            int row = plot * MAX_SPECIES;
            int behind = (plots - 1 - plot) * MAX_SPECIES;
            System.arraycopy(volumes, row + MAX_SPECIES, volumes, row, behind);
            plots--;
        }

        long volumeIn(int plot, int species) {
            int row = plot * MAX_SPECIES;
            if (species != NONE) {
                return volumes[row + species];
            }
            long all = 0;
            for (int each = 0; each < MAX_SPECIES; each++) {
                all += volumes[row + each];
            }
            return all;
        }

        long total(int species) {
            long total = 0;
            for (int plot = 0; plot < plots; plot++) {
                total += volumeIn(plot, species);
            }
            return total;
        }

        /** The number of plots times the sum of the squares, minus the square of the sum. */
        long spread(int species) {
            long total = 0;
            long squares = 0;
            for (int plot = 0; plot < plots; plot++) {
                long volume = volumeIn(plot, species);
                total += volume;
                squares += volume * volume;
            }
            return plots * squares - total * total;
        }

        // An estimate from m plots is accurate if weightedError * (size - m) <= allowance * m.
        // With the present number of plots this is the rule of section 2, multiplied out.

        long weightedError(int species) {
            return 40_000L * spread(species) * plots;
        }

        long allowance(int species, int percent, int size) {
            long total = total(species);
            return (long) percent * percent * size * total * total * (plots - 1);
        }

        int mostInfluential(int species) {
            long total = total(species);
            int found = 0;
            long greatest = -1;
            for (int plot = 0; plot < plots; plot++) {
                // Without the plot the estimate changes by this, times the same for all plots.
                long change = Math.abs(plots * volumeIn(plot, species) - total);
                if (change > greatest) {
                    greatest = change;
                    found = plot;
                }
            }
            return found;
        }

        int roundedEstimate(int species, int size) {
            if (plots == 0) {
                return 0;
            }
            return (int) (size * total(species) / plots);
        }
    }

    /** The volumes that are for sale and the bids for them. */
    private static final class Bidding {
        final int[] volumes;
        final int[] rates;
        final int[] deposits;
        final int[] sealings;
        int sealingCount;
        int barredBidder;

        Bidding() {
            volumes = new int[MAX_SPECIES];
            rates = new int[BIDDERS * MAX_SPECIES];
            deposits = new int[BIDDERS];
            sealings = new int[BIDDERS];
            barredBidder = NONE;
        }

        void clear() {
            Arrays.fill(volumes, 0);
            Arrays.fill(rates, 0);
            Arrays.fill(deposits, 0);
            Arrays.fill(sealings, 0);
            sealingCount = 0;
            barredBidder = NONE;
        }

        void copyFrom(Bidding other) {
            copy(other.volumes, volumes);
            copy(other.rates, rates);
            copy(other.deposits, deposits);
            copy(other.sealings, sealings);
            sealingCount = other.sealingCount;
            barredBidder = other.barredBidder;
        }

        int rateOf(int bidder, int species) {
            return rates[bidder * MAX_SPECIES + species];
        }

        void setRate(int bidder, int species, int rate) {
            rates[bidder * MAX_SPECIES + species] = rate;
        }

        boolean isSealed(int bidder) {
            return sealings[bidder] > 0;
        }

        int sealNext(int bidder) {
            sealingCount++;
            sealings[bidder] = sealingCount;
            return sealingCount;
        }

        void delete(int bidder) {
            for (int species = 0; species < MAX_SPECIES; species++) {
                setRate(bidder, species, 0);
            }
            deposits[bidder] = 0;
            sealings[bidder] = 0;
        }

        long valueOf(int bidder) {
            long value = 0;
            for (int species = 0; species < MAX_SPECIES; species++) {
                value += (long) rateOf(bidder, species) * volumes[species];
            }
            return value;
        }

        int problemOf(int bidder, Terms terms) {
            if (!isSealed(bidder)) {
                return 1;
            }
            if (hasLowRate(bidder, NONE, terms)) {
                return 2;
            }
            if (isDepositTooLow(bidder, valueOf(bidder), terms)) {
                return 3;
            }
            return bidder == barredBidder ? 4 : 0;
        }

        boolean hasLowRate(int bidder, int exceptSpecies, Terms terms) {
            for (int species = 0; species < terms.speciesCount; species++) {
                if (species != exceptSpecies
                        && rateOf(bidder, species) < terms.minimumRates[species]) {
                    return true;
                }
            }
            return false;
        }

        boolean isDepositTooLow(int bidder, long value, Terms terms) {
            return deposits[bidder] * 100L < value * terms.numbers[DEPOSIT_PERCENT];
        }

        boolean isValid(int bidder, Terms terms) {
            return problemOf(bidder, terms) == 0;
        }

        int validBids(Terms terms) {
            int valid = 0;
            for (int bidder = 0; bidder < BIDDERS; bidder++) {
                if (isValid(bidder, terms)) {
                    valid++;
                }
            }
            return valid;
        }

        /** Whether a bid goes before another one if it is worth so much more (or less) than it. */
        boolean goesBefore(int bidder, int other, long lead) {
            return lead > 0 || lead == 0 && sealings[bidder] < sealings[other];
        }

        boolean beats(int bidder, int other) {
            return goesBefore(bidder, other, valueOf(bidder) - valueOf(other));
        }

        int winner(Terms terms) {
            int winner = NONE;
            for (int bidder = 0; bidder < BIDDERS; bidder++) {
                if (isValid(bidder, terms) && (winner == NONE || beats(bidder, winner))) {
                    winner = bidder;
                }
            }
            return winner;
        }

        int rankOf(int bidder, Terms terms) {
            if (!isValid(bidder, terms)) {
                return 0;
            }
            int rank = 1;
            for (int other = 0; other < BIDDERS; other++) {
                if (other != bidder && isValid(other, terms) && beats(other, bidder)) {
                    rank++;
                }
            }
            return rank;
        }

        /** The change in percent with which the winner loses; 0 if there is none. */
        int leastTurningChange(int winner, int species, Terms terms) {
            int least = 0;
            for (int other = 0; other < BIDDERS; other++) {
                if (other != winner && isValid(other, terms)) {
                    int change = turningChange(winner, other, species);
                    if (change != 0 && (least == 0 || isLessChange(change, least))) {
                        least = change;
                    }
                }
            }
            return least;
        }

        boolean isLessChange(int change, int other) {
            int size = Math.abs(change);
            int otherSize = Math.abs(other);
            return size < otherSize || size == otherSize && change < other;
        }

        int turningChange(int winner, int other, int species) {
            long lead = valueOf(other) - valueOf(winner);
            long leadOfRate = rateOf(other, species) - rateOf(winner, species);
            for (int percent = 1; percent <= 100; percent++) {
                if (goesBefore(other, winner, lead + leadOfRate * growth(species, -percent))) {
                    return -percent;
                }
                if (goesBefore(other, winner, lead + leadOfRate * growth(species, percent))) {
                    return percent;
                }
            }
            return 0;
        }

        int growth(int species, int percent) {
            return volumes[species] * (100 + percent) / 100 - volumes[species];
        }

        int leastRateToWin(int bidder, int species, Terms terms) {
            if (!isSealed(bidder) || bidder == barredBidder
                    || hasLowRate(bidder, species, terms)) {
                return NONE;
            }
            long volume = volumes[species];
            long otherValue = valueOf(bidder) - rateOf(bidder, species) * volume;
            long missing = leastValueToWin(bidder, terms) - otherValue;
            long rate = terms.minimumRates[species];
            if (rate * volume < missing) {
                if (volume == 0) {
                    return NONE;
                }
                rate = (missing + volume - 1) / volume;
            }
            // A greater rate would only ask for a greater deposit.
            if (rate > MAX_RATE || isDepositTooLow(bidder, otherValue + rate * volume, terms)) {
                return NONE;
            }
            return (int) rate;
        }

        long leastValueToWin(int bidder, Terms terms) {
            long least = 0;
            for (int other = 0; other < BIDDERS; other++) {
                if (other != bidder && isValid(other, terms)) {
                    long lead = sealings[bidder] < sealings[other] ? 0 : 1;
                    least = Math.max(least, valueOf(other) + lead);
                }
            }
            return least;
        }
    }

    /** The first contract: what was awarded, the indexes, and the books. */
    private static final class Contract {
        final int[] volumes;
        final int[] rates;
        final int[] indexes;
        final long[] booked;
        int purchaser;
        int deposit;
        int month;
        long debt;

        Contract() {
            volumes = new int[MAX_SPECIES];
            rates = new int[MAX_SPECIES];
            indexes = new int[MAX_SPECIES * QUARTERS];
            booked = new long[MONTHS];
            purchaser = NONE;
        }

        void clear() {
            Arrays.fill(volumes, 0);
            Arrays.fill(rates, 0);
            Arrays.fill(indexes, 0);
            Arrays.fill(booked, 0);
            purchaser = NONE;
            deposit = 0;
            month = 0;
            debt = 0;
        }

        void copyFrom(Contract other) {
            copy(other.volumes, volumes);
            copy(other.rates, rates);
            copy(other.indexes, indexes);
            System.arraycopy(other.booked, 0, booked, 0, MONTHS);
            purchaser = other.purchaser;
            deposit = other.deposit;
            month = other.month;
            debt = other.debt;
        }

        void setIndexOf(int species, int quarter, int index) {
            indexes[species * QUARTERS + quarter] = index;
        }

        int indexIn(int species, int quarter, Terms terms) {
            for (int earlier = quarter; earlier >= 0; earlier--) {
                // No index may be 0, so 0 means that none was set.
                int index = indexes[species * QUARTERS + earlier];
                if (index > 0) {
                    return index;
                }
            }
            return terms.baseIndexes[species];
        }

        int adjustedRate(int species, int quarter, Terms terms) {
            int rise = indexIn(species, quarter, terms) - terms.baseIndexes[species];
            int addition = Math.floorDiv(rise * terms.numbers[INDEX_SHARE], 100);
            return Math.max(rates[species] + addition, terms.minimumRates[species]);
        }

        int leastIndexFor(int species, int rate, Terms terms) {
            int missing = rate - rates[species];
            int share = terms.numbers[INDEX_SHARE];
            if (rate <= terms.minimumRates[species]) {
                return 1;
            }
            if (share == 0) {
                return missing <= 0 ? 1 : NONE;
            }
            // The quotient is negated twice because it has to be rounded up.
            int rise = -Math.floorDiv(-missing * 100, share);
            int index = Math.max(1, terms.baseIndexes[species] + rise);
            return index <= MAX_INDEX ? index : NONE;
        }
    }

    /** The loads: net volumes as scaled first and, where there was a check, by the check. */
    private static final class Loads {
        int count;
        // The sums over the loads with a check; such a load is never removed, so they only grow.
        int checkedNets;
        int checkedChecks;
        final int[] species;
        final int[] months;
        final int[] nets;
        final int[] checks;

        Loads() {
            species = new int[MAX_LOADS];
            months = new int[MAX_LOADS];
            nets = new int[MAX_LOADS];
            checks = new int[MAX_LOADS];
        }

        void clear() {
            count = 0;
            checkedNets = 0;
            checkedChecks = 0;
        }

        void copyFrom(Loads other) {
            count = other.count;
            checkedNets = other.checkedNets;
            checkedChecks = other.checkedChecks;
            copy(other.species, species);
            copy(other.months, months);
            copy(other.nets, nets);
            copy(other.checks, checks);
        }

        void add(int kind, int month, int net) {
            species[count] = kind;
            months[count] = month;
            nets[count] = net;
            checks[count] = NONE;
            count++;
        }

        void remove(int load) {
            closeGap(species, load);
            closeGap(months, load);
            closeGap(nets, load);
            closeGap(checks, load);
            count--;
        }

        void closeGap(int[] row, int load) {
            System.arraycopy(row, load + 1, row, load, count - 1 - load);
        }

        boolean isChecked(int load) {
            return checks[load] != NONE;
        }

        void setCheck(int load, int net) {
            checks[load] = net;
            checkedNets += nets[load];
            checkedChecks += net;
        }

        int netSum(int kind, int from, int to) {
            int total = 0;
            for (int load = 0; load < count; load++) {
                boolean counts = kind == NONE || species[load] == kind;
                if (counts && months[load] >= from && months[load] < to) {
                    total += nets[load];
                }
            }
            return total;
        }

        int worstChecked() {
            int worst = NONE;
            for (int load = 0; load < count; load++) {
                if (isChecked(load) && nets[load] > 0
                        && (worst == NONE || isWorse(load, worst))) {
                    worst = load;
                }
            }
            return worst;
        }

        boolean isWorse(int load, int other) {
            long difference = Math.abs(checks[load] - nets[load]);
            long otherDifference = Math.abs(checks[other] - nets[other]);
            return difference * nets[other] > otherDifference * nets[load];
        }

        long factorDividend(int tolerance) {
            return needsFactor(tolerance) ? checkedChecks : 1;
        }

        long factorDivisor(int tolerance) {
            return needsFactor(tolerance) ? checkedNets : 1;
        }

        boolean needsFactor(int tolerance) {
            return checkedNets != 0 && checkedChecks != 0
                    && Math.abs(checkedNets - checkedChecks) * 100 > checkedNets * tolerance;
        }
    }

    /** All that undo brings back. */
    private static final class Sale {
        int phase;
        final Terms terms;
        final Cruise cruise;
        final Bidding bidding;
        final Contract contract;
        final Loads loads;

        Sale() {
            terms = new Terms();
            cruise = new Cruise();
            bidding = new Bidding();
            contract = new Contract();
            loads = new Loads();
        }

        void clear() {
            phase = CRUISE;
            terms.clear();
            cruise.clear();
            bidding.clear();
            contract.clear();
            loads.clear();
        }

        void copyFrom(Sale other) {
            phase = other.phase;
            terms.copyFrom(other.terms);
            cruise.copyFrom(other.cruise);
            bidding.copyFrom(other.bidding);
            contract.copyFrom(other.contract);
            loads.copyFrom(other.loads);
        }

        boolean isBidding() {
            return phase == BIDDING || phase == SECOND_BIDDING;
        }

        boolean hasOpenBids() {
            return phase != CRUISE && !isBidding();
        }

        boolean hasContract() {
            return phase >= CONTRACT;
        }

        void beginBidding() {
            for (int species = 0; species < terms.speciesCount; species++) {
                bidding.volumes[species] = cruise.roundedEstimate(species, terms.numbers[SIZE]);
            }
            phase = BIDDING;
        }

        void beginSecondBidding() {
            bidding.clear();
            for (int species = 0; species < terms.speciesCount; species++) {
                bidding.volumes[species] = remainingOf(species);
            }
            bidding.barredBidder = contract.purchaser;
            phase = SECOND_BIDDING;
        }

        void beginContract(int winner) {
            // The contract keeps its own numbers because a second bidding deletes the bids.
            for (int species = 0; species < MAX_SPECIES; species++) {
                contract.volumes[species] = bidding.volumes[species];
                contract.rates[species] = bidding.rateOf(winner, species);
            }
            contract.deposit = bidding.deposits[winner];
            contract.purchaser = winner;
            phase = CONTRACT;
        }

        long chargeOf(int month) {
            int tolerance = terms.numbers[TOLERANCE];
            long dividend = loads.factorDividend(tolerance);
            long divisor = loads.factorDivisor(tolerance) * 10;
            if (divisor == 0) {
                return 0;
            }
            int quarter = month / MONTHS_OF_QUARTER;
            long sum = 0;
            for (int species = 0; species < terms.speciesCount; species++) {
                long volume = loads.netSum(species, month, month + 1);
                if (volume > 0) {
                    long rate = contract.adjustedRate(species, quarter, terms);
                    sum += volume * rate * dividend / divisor;
                }
            }
            return sum;
        }

        long withInterest(long debt) {
            return debt > 0 ? debt + debt * terms.numbers[INTEREST] / 1000 : debt;
        }

        void bookMonth() {
            long due = chargeOf(contract.month);
            contract.booked[contract.month] = due;
            contract.debt = withInterest(contract.debt) + due;
        }

        /** What is due for the ended months beyond what was booked for them. */
        long unbooked() {
            int ended = phase == CLOSED ? contract.month + 1 : contract.month;
            long difference = 0;
            for (int month = 0; month < ended; month++) {
                difference += chargeOf(month) - contract.booked[month];
            }
            return difference;
        }

        void closeContract() {
            bookMonth();
            phase = CLOSED;
            long correction = unbooked();
            contract.booked[contract.month] += correction;
            contract.debt += correction - contract.deposit;
        }

        int remainingOf(int species) {
            int tenths = contract.volumes[species] * 10 - loads.netSum(species, 0, MONTHS);
            return tenths > 0 ? tenths / 10 : 0;
        }

        int remainingSum() {
            int sum = 0;
            for (int species = 0; species < terms.speciesCount; species++) {
                sum += remainingOf(species);
            }
            return sum;
        }

        boolean isInDefault() {
            return contract.debt > contract.deposit
                    || contract.month >= terms.numbers[TERM] && remainingSum() > 0;
        }

        long lossByResale() {
            int winner = bidding.winner(terms);
            if (winner == NONE) {
                return 0;
            }
            int quarter = contract.month / MONTHS_OF_QUARTER;
            long worth = 0;
            for (int species = 0; species < terms.speciesCount; species++) {
                long rate = contract.adjustedRate(species, quarter, terms);
                worth += rate * remainingOf(species);
            }
            return worth - bidding.valueOf(winner) + terms.numbers[RESALE_COSTS]
                    + contract.debt - contract.deposit;
        }
    }

    /** The sales as they were before the latest changes, in a ring that is made once. */
    private static final class History {
        final Sale[] ring;
        int newest;
        int kept;

        History() {
            ring = new Sale[UNDO_DEPTH];
            for (int slot = 0; slot < UNDO_DEPTH; slot++) {
                ring[slot] = new Sale();
            }
        }

        void keep(Sale sale) {
            newest = (newest + 1) % UNDO_DEPTH;
            ring[newest].copyFrom(sale);
            kept = Math.min(kept + 1, UNDO_DEPTH);
        }

        /** Gives the latest kept sale for the present one, whose room the ring uses again. */
        Sale takeBack(Sale present) {
            Sale earlier = ring[newest];
            ring[newest] = present;
            newest = (newest + UNDO_DEPTH - 1) % UNDO_DEPTH;
            kept--;
            return earlier;
        }
    }

    /** The text buffer and the reading of a sale from it. */
    private static final class Reader {
        static final int BYTES_OF_APPEND = 20;
        static final int NO_ERROR = 0;
        static final int OUT_OF_EVERY_RANGE = 10_000_000;

        final byte[] bytes;
        int size;
        int errorPosition;
        int error;
        int end;
        int position;
        int number;

        Reader() {
            bytes = new byte[TEXT_BYTES];
            errorPosition = NONE;
        }

        boolean hasRoom() {
            return size <= TEXT_BYTES - BYTES_OF_APPEND;
        }

        void take(int fourBytes) {
            for (int shift = 24; shift >= 0; shift -= 8) {
                bytes[size] = (byte) (fourBytes >> shift);
                size++;
            }
        }

        /** Empties the buffer; answers the number of plots or the error code. */
        int readInto(Sale target, int length) {
            size = 0;
            end = length;
            position = 0;
            error = NO_ERROR;
            errorPosition = NONE;
            target.clear();
            boolean isGood = readNumbers(target.terms) && readSpecies(target.terms)
                    && readPlots(target.cruise, target.terms) && readEnd();
            return isGood ? target.cruise.plots : error;
        }

        boolean readNumbers(Terms terms) {
            if (!readWord("sale")) {
                return fail(SYNTAX_ERROR, position);
            }
            for (int which = 0; which < SALE_NUMBERS; which++) {
                if (!readNumber(LEAST_NUMBERS[which], GREATEST_NUMBERS[which])) {
                    return false;
                }
                terms.numbers[which] = number;
            }
            return readSemicolon();
        }

        boolean readSpecies(Terms terms) {
            for (int species = 0; species <= MAX_SPECIES; species++) {
                int start = startOfToken();
                if (!readWord("species")) {
                    return true;
                }
                if (species == MAX_SPECIES) {
                    return fail(TOO_MANY, start);
                }
                if (!readNumber(0, MAX_MINIMUM_RATE)) {
                    return false;
                }
                terms.minimumRates[species] = number;
                if (!readNumber(1, MAX_INDEX)) {
                    return false;
                }
                terms.baseIndexes[species] = number;
                terms.speciesCount = species + 1;
                if (!readSemicolon()) {
                    return false;
                }
            }
            return true;
        }

        boolean readPlots(Cruise cruise, Terms terms) {
            int most = Math.min(MAX_PLOTS, terms.numbers[SIZE]);
            for (int plot = 0; plot <= most; plot++) {
                int start = startOfToken();
                if (!readWord("plot")) {
                    return true;
                }
                if (plot == most) {
                    return fail(TOO_MANY, start);
                }
                for (int species = 0; species < terms.speciesCount; species++) {
                    if (!readNumber(0, MAX_PLOT_VOLUME)) {
                        return false;
                    }
                    cruise.volumes[plot * MAX_SPECIES + species] = number;
                }
                cruise.plots = plot + 1;
                if (!readSemicolon()) {
                    return false;
                }
            }
            return true;
        }

        boolean readEnd() {
            int start = startOfToken();
            return start == end || fail(SYNTAX_ERROR, start);
        }

        /** Passes a word that stands here in its whole length; otherwise stays in front of it. */
        boolean readWord(String word) {
            int start = startOfToken();
            for (int letter = 0; letter < word.length(); letter++) {
                if (byteAt(start + letter) != word.charAt(letter)) {
                    return false;
                }
            }
            int behind = start + word.length();
            if (isLetter(byteAt(behind))) {
                return false;
            }
            position = behind;
            return true;
        }

        boolean readNumber(int least, int greatest) {
            int start = startOfToken();
            if (!isDigit(byteAt(start))) {
                return fail(SYNTAX_ERROR, start);
            }
            number = 0;
            while (position < end && isDigit(byteAt(position))) {
                int longer = number * 10 + byteAt(position) - '0';
                number = Math.min(longer, OUT_OF_EVERY_RANGE);
                position++;
            }
            return number >= least && number <= greatest || fail(VALUE_ERROR, start);
        }

        boolean readSemicolon() {
            int start = startOfToken();
            if (byteAt(start) != ';') {
                return fail(SYNTAX_ERROR, start);
            }
            position = start + 1;
            return true;
        }

        int startOfToken() {
            while (position < end && byteAt(position) == ' ') {
                position++;
            }
            return position;
        }

        /** The byte at a position; 0, which no token has, behind the end of the text. */
        int byteAt(int at) {
            return at >= 0 && at < end && at < TEXT_BYTES ? bytes[at] : 0;
        }

        boolean isLetter(int sign) {
            return sign >= 'a' && sign <= 'z';
        }

        boolean isDigit(int sign) {
            return sign >= '0' && sign <= '9';
        }

        boolean fail(int code, int at) {
            error = code;
            errorPosition = at;
            return false;
        }
    }
}
