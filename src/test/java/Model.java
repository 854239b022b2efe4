import java.math.BigInteger;
import java.util.ArrayList;
import java.util.List;
import java.util.NoSuchElementException;

/**
 * The document once more, written for being compared and not for being fast: exact fractions with
 * BigInteger, searches that try every possibility, and a full copy of the sale for every change.
 */
final class Model {
    private static final class Fraction {
        final BigInteger top;
        final BigInteger bottom;

        Fraction(BigInteger top, BigInteger bottom) {
            BigInteger common = top.gcd(bottom);
            this.top = top.divide(common);
            this.bottom = bottom.divide(common);
        }

        Fraction times(Fraction other) {
            return new Fraction(top.multiply(other.top), bottom.multiply(other.bottom));
        }

        int compareWith(Fraction other) {
            return top.multiply(other.bottom).compareTo(other.top.multiply(bottom));
        }

        Fraction minus(Fraction other) {
            return new Fraction(top.multiply(other.bottom).subtract(other.top.multiply(bottom)),
                    bottom.multiply(other.bottom));
        }

        Fraction size() {
            return new Fraction(top.abs(), bottom);
        }

        BigInteger floor() {
            BigInteger[] parts = top.divideAndRemainder(bottom);
            return parts[1].signum() < 0 ? parts[0].subtract(BigInteger.ONE) : parts[0];
        }

        long part(boolean denominator) {
            return (denominator ? bottom : top).longValueExact();
        }
    }

    private static final class Bid {
        int[] rates = new int[6];
        int deposit;
        int sealing;

        Bid copy() {
            Bid copy = new Bid();
            copy.rates = rates.clone();
            copy.deposit = deposit;
            copy.sealing = sealing;
            return copy;
        }
    }

    private static final class Load {
        int species;
        int month;
        int net;
        Integer check;

        Load copy() {
            Load copy = new Load();
            copy.species = species;
            copy.month = month;
            copy.net = net;
            copy.check = check;
            return copy;
        }
    }

    private static final class State {
        int phase;
        int size = 2;
        int term = 1;
        int depositPercent;
        int share;
        int tolerance;
        int interest;
        int costs;
        List<int[]> species = new ArrayList<>();
        List<int[]> plots = new ArrayList<>();
        int[] firstVolumes = new int[6];
        int[] secondVolumes = new int[6];
        List<Bid> bids = freshBids();
        int sealings;
        int purchaser = -1;
        Bid contract;
        Integer[][] index = new Integer[12][6];
        List<Load> loads = new ArrayList<>();
        int month;
        BigInteger debt = BigInteger.ZERO;
        List<BigInteger> booked = new ArrayList<>();

        static List<Bid> freshBids() {
            List<Bid> bids = new ArrayList<>();
            for (int i = 0; i < 8; i++) {
                bids.add(new Bid());
            }
            return bids;
        }

        State copy() {
            State c = new State();
            c.phase = phase;
            c.size = size;
            c.term = term;
            c.depositPercent = depositPercent;
            c.share = share;
            c.tolerance = tolerance;
            c.interest = interest;
            c.costs = costs;
            c.species = new ArrayList<>(species);
            c.plots = new ArrayList<>(plots);
            c.firstVolumes = firstVolumes.clone();
            c.secondVolumes = secondVolumes.clone();
            c.bids = new ArrayList<>();
            for (Bid bid : bids) {
                c.bids.add(bid.copy());
            }
            c.sealings = sealings;
            c.purchaser = purchaser;
            c.contract = contract == null ? null : contract.copy();
            for (int q = 0; q < 12; q++) {
                c.index[q] = index[q].clone();
            }
            for (Load load : loads) {
                c.loads.add(load.copy());
            }
            c.month = month;
            c.debt = debt;
            c.booked = new ArrayList<>(booked);
            return c;
        }
    }

    private static final class Token {
        final char kind;
        final String text;
        final int at;

        Token(char kind, String text, int at) {
            this.kind = kind;
            this.text = text;
            this.at = at;
        }
    }

    private static final class ReadError extends Exception {
        private static final long serialVersionUID = 1L;
        final int code;
        final int at;

        ReadError(int code, int at) {
            this.code = code;
            this.at = at;
        }
    }

    private State s = new State();
    private final List<State> history = new ArrayList<>();
    private String buffer = "";
    private int errorAt = -1;

    // ---- helpers

    private static BigInteger big(long number) {
        return BigInteger.valueOf(number);
    }

    private void exists(boolean holds) {
        if (!holds) {
            throw new IndexOutOfBoundsException();
        }
    }

    private void fits(boolean holds) {
        if (!holds) {
            throw new IllegalArgumentException();
        }
    }

    private void allowed(boolean holds) {
        if (!holds) {
            throw new IllegalStateException();
        }
    }

    private void change() {
        history.add(s.copy());
        if (history.size() > 8) {
            history.remove(0);
        }
    }

    private boolean species(int species) {
        return species >= 0 && species < s.species.size();
    }

    private static boolean between(int x, int low, int high) {
        return low <= x && x <= high;
    }

    private BigInteger sum(int species, int power, int without) {
        BigInteger sum = BigInteger.ZERO;
        for (int p = 0; p < s.plots.size(); p++) {
            if (p != without) {
                long x = 0;
                for (int i = 0; i < 6; i++) {
                    x += species == -1 || species == i ? s.plots.get(p)[i] : 0;
                }
                sum = sum.add(big(x).pow(power));
            }
        }
        return sum;
    }

    private Fraction estimated(int species, int without) {
        int n = s.plots.size() - (without >= 0 ? 1 : 0);
        return new Fraction(big(s.size).multiply(sum(species, 1, without)), big(n));
    }

    private BigInteger q(int species) {
        return big(s.plots.size()).multiply(sum(species, 2, -1)).subtract(sum(species, 1, -1).pow(2));
    }

    private Fraction squared(int species) {
        long n = s.plots.size();
        return new Fraction(big(s.size).multiply(big(s.size - n)).multiply(q(species)), big(n * n * (n - 1)));
    }

    // ---- setup

    public int append(int a, int b, int c, int d, int e) {
        allowed(buffer.length() + 20 <= 800);
        for (int x : new int[] {a, b, c, d, e}) {
            buffer += "" + (char) (x >>> 24) + (char) (x >>> 16 & 255) + (char) (x >>> 8 & 255) + (char) (x & 255);
        }
        return buffer.length();
    }

    public int load(int length) {
        fits(length >= 0 && length <= buffer.length());
        String text = buffer.substring(0, length);
        buffer = "";
        try {
            State read = read(text);
            errorAt = -1;
            change();
            s = read;
            return s.plots.size();
        } catch (ReadError error) {
            errorAt = error.at;
            return error.code;
        }
    }

    private static List<Token> tokens(String text) {
        List<Token> tokens = new ArrayList<>();
        int at = 0;
        while (at < text.length()) {
            char c = text.charAt(at);
            int end = at + 1;
            char kind = 'x';
            if (c == ' ') {
                at++;
                continue;
            } else if (c == ';') {
                kind = ';';
            } else if (c >= 'a' && c <= 'z') {
                kind = 'w';
                while (end < text.length() && text.charAt(end) >= 'a' && text.charAt(end) <= 'z') {
                    end++;
                }
            } else if (c >= '0' && c <= '9') {
                kind = 'n';
                while (end < text.length() && text.charAt(end) >= '0' && text.charAt(end) <= '9') {
                    end++;
                }
            }
            tokens.add(new Token(kind, text.substring(at, end), at));
            at = end;
        }
        tokens.add(new Token('e', "", text.length()));
        return tokens;
    }

    private static int number(Token token, int low, int high) throws ReadError {
        if (token.kind != 'n') {
            throw new ReadError(-2, token.at);
        }
        BigInteger value = new BigInteger(token.text);
        if (value.compareTo(big(low)) < 0 || value.compareTo(big(high)) > 0) {
            throw new ReadError(-3, token.at);
        }
        return value.intValueExact();
    }

    private static void sign(Token token, char kind, String text) throws ReadError {
        if (token.kind != kind || !token.text.equals(text)) {
            throw new ReadError(-2, token.at);
        }
    }

    private static State read(String text) throws ReadError {
        List<Token> tokens = tokens(text);
        State r = new State();
        int at = 0;
        sign(tokens.get(at++), 'w', "sale");
        r.size = number(tokens.get(at++), 2, 200);
        r.term = number(tokens.get(at++), 1, 35);
        r.depositPercent = number(tokens.get(at++), 0, 50);
        r.share = number(tokens.get(at++), 0, 100);
        r.tolerance = number(tokens.get(at++), 0, 20);
        r.interest = number(tokens.get(at++), 0, 50);
        r.costs = number(tokens.get(at++), 0, 1000000);
        sign(tokens.get(at++), ';', ";");
        while (tokens.get(at).kind == 'w' && tokens.get(at).text.equals("species")) {
            if (r.species.size() == 6) {
                throw new ReadError(-4, tokens.get(at).at);
            }
            at++;
            int minimum = number(tokens.get(at++), 0, 100000);
            int base = number(tokens.get(at++), 1, 10000);
            sign(tokens.get(at++), ';', ";");
            r.species.add(new int[] {minimum, base});
        }
        while (tokens.get(at).kind == 'w' && tokens.get(at).text.equals("plot")) {
            if (r.plots.size() == 30 || r.plots.size() == r.size) {
                throw new ReadError(-4, tokens.get(at).at);
            }
            at++;
            int[] plot = new int[6];
            for (int i = 0; i < r.species.size(); i++) {
                plot[i] = number(tokens.get(at++), 0, 500);
            }
            sign(tokens.get(at++), ';', ";");
            r.plots.add(plot);
        }
        if (tokens.get(at).kind != 'e') {
            throw new ReadError(-2, tokens.get(at).at);
        }
        return r;
    }

    public int errorPosition() {
        return errorAt;
    }

    public int phase() {
        return s.phase;
    }

    // ---- cruise

    public int plotCount() {
        return s.plots.size();
    }

    public int addPlot(int a, int b, int c, int d, int e, int f) {
        int[] plot = {a, b, c, d, e, f};
        for (int i = 0; i < 6; i++) {
            fits(plot[i] >= 0 && plot[i] <= 500 && (plot[i] == 0 || species(i)));
        }
        allowed(s.phase == 0 && s.plots.size() < 30 && s.plots.size() < s.size);
        change();
        s.plots.add(plot);
        return s.plots.size();
    }

    public int removePlot(int plot) {
        exists(plot >= 0 && plot < s.plots.size());
        allowed(s.phase == 0);
        change();
        s.plots.remove(plot);
        return s.plots.size();
    }

    public long estimate(int species, boolean denominator) {
        exists(species == -1 || species(species));
        allowed(s.plots.size() >= 1);
        return estimated(species, -1).part(denominator);
    }

    public long squaredError(int species, boolean denominator) {
        exists(species == -1 || species(species));
        allowed(s.plots.size() >= 2);
        return squared(species).part(denominator);
    }

    public boolean isAccurate(int species, int percent) {
        exists(species == -1 || species(species));
        fits(between(percent, 1, 20));
        allowed(s.plots.size() >= 2);
        Fraction estimate = estimated(species, -1);
        Fraction left = new Fraction(big(40000), BigInteger.ONE).times(squared(species));
        Fraction right = new Fraction(big(percent * percent), BigInteger.ONE).times(estimate).times(estimate);
        return left.compareWith(right) <= 0;
    }

    public int neededPlots(int species, int percent) {
        exists(species == -1 || species(species));
        fits(between(percent, 1, 20));
        allowed(s.plots.size() >= 2);
        int n = s.plots.size();
        BigInteger t = sum(species, 1, -1);
        int m = 1;
        while (big(40000).multiply(big(s.size - m)).multiply(q(species)).multiply(big(n)).compareTo(
                big(percent * percent).multiply(big(s.size)).multiply(t).multiply(t).multiply(big(m))
                        .multiply(big(n - 1))) > 0) {
            m++;
        }
        return m;
    }

    public int mostInfluentialPlot(int species) {
        exists(species == -1 || species(species));
        allowed(s.plots.size() >= 2);
        int found = -1;
        Fraction most = null;
        for (int p = 0; p < s.plots.size(); p++) {
            Fraction change = estimated(species, p).minus(estimated(species, -1)).size();
            if (most == null || change.compareWith(most) > 0) {
                most = change;
                found = p;
            }
        }
        return found;
    }

    // ---- bidding

    private int[] volumes() {
        return s.phase >= 6 ? s.secondVolumes : s.firstVolumes;
    }

    public int advertise() {
        allowed((s.phase == 0 || s.phase == 5) && !s.species.isEmpty());
        change();
        int sum = 0;
        for (int i = 0; i < s.species.size(); i++) {
            if (s.phase == 0) {
                s.firstVolumes[i] = s.plots.isEmpty() ? 0 : estimated(i, -1).floor().intValueExact();
                sum += s.firstVolumes[i];
            } else {
                s.secondVolumes[i] = left(i);
                sum += s.secondVolumes[i];
            }
        }
        s.bids = State.freshBids();
        s.sealings = 0;
        s.phase = s.phase == 0 ? 1 : 6;
        return sum;
    }

    public int volume(int species) {
        exists(species(species));
        allowed(s.phase != 0);
        return volumes()[species];
    }

    private boolean bidding() {
        return s.phase == 1 || s.phase == 6;
    }

    public int offer(int bidder, int species, int rate) {
        exists(between(bidder, 0, 7) && species(species));
        fits(between(rate, 0, 1000000));
        allowed(bidding() && s.bids.get(bidder).sealing == 0);
        change();
        int old = s.bids.get(bidder).rates[species];
        s.bids.get(bidder).rates[species] = rate;
        return old;
    }

    public int setDeposit(int bidder, int amount) {
        exists(between(bidder, 0, 7));
        fits(between(amount, 0, 1000000000));
        allowed(bidding() && s.bids.get(bidder).sealing == 0);
        change();
        int old = s.bids.get(bidder).deposit;
        s.bids.get(bidder).deposit = amount;
        return old;
    }

    public int seal(int bidder) {
        exists(between(bidder, 0, 7));
        allowed(bidding() && s.bids.get(bidder).sealing == 0);
        change();
        s.bids.get(bidder).sealing = ++s.sealings;
        return s.sealings;
    }

    public void withdraw(int bidder) {
        exists(between(bidder, 0, 7));
        allowed(bidding() && s.bids.get(bidder).sealing != 0);
        change();
        s.bids.set(bidder, new Bid());
    }

    private BigInteger worth(Bid bid, int[] volumes) {
        BigInteger sum = BigInteger.ZERO;
        for (int i = 0; i < s.species.size(); i++) {
            sum = sum.add(big(bid.rates[i]).multiply(big(volumes[i])));
        }
        return sum;
    }

    private int problemOf(int bidder) {
        Bid bid = s.bids.get(bidder);
        if (bid.sealing == 0) {
            return 1;
        }
        for (int i = 0; i < s.species.size(); i++) {
            if (bid.rates[i] < s.species.get(i)[0]) {
                return 2;
            }
        }
        BigInteger needed = worth(bid, volumes()).multiply(big(s.depositPercent));
        if (big(bid.deposit).multiply(big(100)).compareTo(needed) < 0) {
            return 3;
        }
        return s.phase >= 6 && bidder == s.purchaser ? 4 : 0;
    }

    private List<Integer> valid() {
        List<Integer> valid = new ArrayList<>();
        for (int b = 0; b < 8; b++) {
            if (problemOf(b) == 0) {
                valid.add(b);
            }
        }
        return valid;
    }

    private List<Integer> ranking(List<Integer> bidders, int[] volumes) {
        List<Integer> ranking = new ArrayList<>(bidders);
        ranking.sort((x, y) -> {
            int byValue = worth(s.bids.get(y), volumes).compareTo(worth(s.bids.get(x), volumes));
            return byValue != 0 ? byValue : s.bids.get(x).sealing - s.bids.get(y).sealing;
        });
        return ranking;
    }

    public int open() {
        allowed(bidding());
        change();
        s.phase++;
        return valid().size();
    }

    private boolean opened() {
        return s.phase != 0 && s.phase != 1 && s.phase != 6;
    }

    public int problem(int bidder) {
        exists(between(bidder, 0, 7));
        allowed(opened());
        return problemOf(bidder);
    }

    public long value(int bidder) {
        exists(between(bidder, 0, 7));
        allowed(opened());
        return worth(s.bids.get(bidder), volumes()).longValueExact();
    }

    public int rank(int bidder) {
        exists(between(bidder, 0, 7));
        allowed(opened());
        return ranking(valid(), volumes()).indexOf(bidder) + 1;
    }

    public int turningPoint(int species) {
        exists(species(species));
        allowed(opened());
        List<Integer> valid = valid();
        if (valid.isEmpty()) {
            throw new NoSuchElementException();
        }
        int winner = ranking(valid, volumes()).get(0);
        for (int size = 0; size <= 100; size++) {
            for (int p : new int[] {-size, size}) {
                int[] changed = volumes().clone();
                changed[species] = changed[species] * (100 + p) / 100;
                if (ranking(valid, changed).get(0) != winner) {
                    return p;
                }
            }
        }
        throw new NoSuchElementException();
    }

    public int leastWinningRate(int bidder, int species) {
        exists(between(bidder, 0, 7) && species(species));
        allowed(opened());
        Bid bid = s.bids.get(bidder);
        int kept = bid.rates[species];
        // Only the least rates of the ranges in which nothing turns can be answers.
        List<Integer> candidates = new ArrayList<>();
        candidates.add(0);
        candidates.add(s.species.get(species)[0]);
        for (int other : valid()) {
            long volume = volumes()[species];
            if (other != bidder && volume > 0) {
                bid.rates[species] = 0;
                BigInteger gap = worth(s.bids.get(other), volumes()).subtract(worth(bid, volumes()));
                bid.rates[species] = kept;
                long near = gap.divide(big(volume)).longValueExact();
                for (long rate = near - 2; rate <= near + 2; rate++) {
                    candidates.add((int) Math.max(0, Math.min(rate, 1000001)));
                }
            }
        }
        int least = Integer.MAX_VALUE;
        for (int rate : candidates) {
            if (rate < least && rate <= 1000000) {
                bid.rates[species] = rate;
                List<Integer> ranking = ranking(valid(), volumes());
                if (!ranking.isEmpty() && ranking.get(0) == bidder) {
                    least = rate;
                }
            }
        }
        bid.rates[species] = kept;
        if (least == Integer.MAX_VALUE) {
            throw new NoSuchElementException();
        }
        return least;
    }

    public int award() {
        allowed(s.phase == 2 || s.phase == 7);
        List<Integer> ranking = ranking(valid(), volumes());
        if (ranking.isEmpty()) {
            throw new NoSuchElementException();
        }
        change();
        int winner = ranking.get(0);
        if (s.phase == 2) {
            s.purchaser = winner;
            s.contract = s.bids.get(winner).copy();
        }
        s.phase++;
        return winner;
    }

    // ---- contract

    public void setIndex(int quarter, int species, int index) {
        exists(between(quarter, 0, 11) && species(species));
        fits(between(index, 1, 10000));
        allowed(s.phase == 3);
        change();
        s.index[quarter][species] = index;
    }

    private int adjusted(int species, int index) {
        int[] kind = s.species.get(species);
        Fraction addition = new Fraction(big((long) (index - kind[1]) * s.share), big(100));
        return Math.max(kind[0], s.contract.rates[species] + addition.floor().intValueExact());
    }

    private int rateIn(int species, int quarter) {
        Integer index = null;
        for (int q = 0; q <= quarter; q++) {
            index = s.index[q][species] != null ? s.index[q][species] : index;
        }
        return adjusted(species, index == null ? s.species.get(species)[1] : index);
    }

    public int rate(int species, int quarter) {
        exists(species(species) && between(quarter, 0, 11));
        allowed(s.phase >= 3);
        return rateIn(species, quarter);
    }

    public int indexFor(int species, int rate) {
        exists(species(species));
        fits(between(rate, 0, 1000000));
        allowed(s.phase >= 3);
        for (int index = 1; index <= 10000; index++) {
            if (adjusted(species, index) >= rate) {
                return index;
            }
        }
        throw new NoSuchElementException();
    }

    private static int netOf(int gross, int defect) {
        int hundredths = gross * (100 - defect);
        return hundredths / 100 + (hundredths % 100 >= 50 ? 1 : 0);
    }

    public int scale(int species, int gross, int defect) {
        exists(species(species));
        fits(between(gross, 1, 10000) && between(defect, 0, 100));
        allowed(s.phase == 3 && s.loads.size() < 60);
        change();
        Load load = new Load();
        load.species = species;
        load.month = s.month;
        load.net = netOf(gross, defect);
        s.loads.add(load);
        return s.loads.size() - 1;
    }

    public int check(int load, int gross, int defect) {
        exists(load >= 0 && load < s.loads.size());
        fits(between(gross, 1, 10000) && between(defect, 0, 100));
        allowed(s.phase == 3 && s.loads.get(load).check == null);
        change();
        s.loads.get(load).check = netOf(gross, defect);
        return s.loads.get(load).check - s.loads.get(load).net;
    }

    public int voidLoad(int load) {
        exists(load >= 0 && load < s.loads.size());
        allowed(s.phase == 3 && s.loads.get(load).month == s.month && s.loads.get(load).check == null);
        change();
        s.loads.remove(load);
        return s.loads.size();
    }

    public int worstCheck() {
        int worst = -1;
        Fraction most = null;
        for (int i = 0; i < s.loads.size(); i++) {
            Load load = s.loads.get(i);
            if (load.check != null && load.net > 0) {
                Fraction part = new Fraction(big(Math.abs(load.check - load.net)), big(load.net));
                if (most == null || part.compareWith(most) > 0) {
                    most = part;
                    worst = i;
                }
            }
        }
        if (worst == -1) {
            throw new NoSuchElementException();
        }
        return worst;
    }

    private int volumeOf(int species, int from, int to) {
        int sum = 0;
        for (Load load : s.loads) {
            if ((species == -1 || load.species == species) && load.month >= from && load.month < to) {
                sum += load.net;
            }
        }
        return sum;
    }

    public int scaled(int species, int from, int to) {
        exists(species == -1 || species(species));
        fits(between(from, 0, 36) && between(to, from, 36));
        allowed(s.phase >= 3);
        return volumeOf(species, from, to);
    }

    public long cutShare(boolean denominator) {
        allowed(s.phase >= 3);
        long all = 0;
        for (int volume : s.firstVolumes) {
            all += volume;
        }
        if (all == 0) {
            return denominator ? 1 : 0;
        }
        return new Fraction(big(volumeOf(-1, 0, 36)), big(all * 10)).part(denominator);
    }

    public int net(int load) {
        exists(load >= 0 && load < s.loads.size());
        return s.loads.get(load).net;
    }

    private Fraction presentFactor() {
        long first = 0;
        long second = 0;
        for (Load load : s.loads) {
            if (load.check != null) {
                first += load.net;
                second += load.check;
            }
        }
        boolean differs = Math.abs(first - second) * 100 > first * s.tolerance;
        return differs && first != 0 && second != 0
                ? new Fraction(big(second), big(first)) : new Fraction(BigInteger.ONE, BigInteger.ONE);
    }

    public int factor(boolean denominator) {
        return (int) presentFactor().part(denominator);
    }

    public int month() {
        return s.month;
    }

    private BigInteger chargeOf(int month) {
        BigInteger sum = BigInteger.ZERO;
        for (int i = 0; i < s.species.size(); i++) {
            BigInteger product = big(volumeOf(i, month, month + 1)).multiply(big(rateIn(i, month / 3)));
            sum = sum.add(new Fraction(product, big(10)).times(presentFactor()).floor());
        }
        return sum;
    }

    private void interest() {
        if (s.debt.signum() > 0) {
            s.debt = s.debt.add(s.debt.multiply(big(s.interest)).divide(big(1000)));
        }
    }

    private void book() {
        interest();
        s.booked.add(chargeOf(s.month));
        s.debt = s.debt.add(chargeOf(s.month));
    }

    public long endMonth() {
        allowed(s.phase == 3 && s.month != 35);
        change();
        book();
        s.month++;
        return debt();
    }

    public long charge(int month) {
        exists(between(month, 0, s.month));
        allowed(s.phase >= 3);
        return chargeOf(month).longValueExact();
    }

    public long pay(int amount) {
        fits(between(amount, 1, 1000000000));
        allowed(s.phase == 3 || s.phase == 4);
        change();
        s.debt = s.debt.subtract(big(amount));
        return debt();
    }

    public long debt() {
        return s.debt.longValueExact();
    }

    public long projectedDebt(int months) {
        fits(between(months, 1, 12));
        allowed(s.phase == 3);
        State kept = s;
        s = s.copy();
        book();
        for (int i = 1; i < months; i++) {
            interest();
        }
        long answer = debt();
        s = kept;
        return answer;
    }

    public long adjustment() {
        BigInteger sum = BigInteger.ZERO;
        // There is an entry for each month that has ended, the last month of a closed contract too.
        for (int month = 0; month < s.booked.size(); month++) {
            sum = sum.add(chargeOf(month)).subtract(s.booked.get(month));
        }
        return sum.longValueExact();
    }

    public long close() {
        allowed(s.phase == 3);
        change();
        book();
        BigInteger correction = big(adjustment());
        s.booked.set(s.month, s.booked.get(s.month).add(correction));
        s.debt = s.debt.add(correction).subtract(big(s.contract.deposit));
        s.phase = 4;
        return debt();
    }

    private int left(int species) {
        int tenths = s.firstVolumes[species] * 10 - volumeOf(species, 0, 36);
        return Math.max(0, new Fraction(big(tenths), big(10)).floor().intValueExact());
    }

    public int remaining(int species) {
        exists(species(species));
        allowed(s.phase >= 3);
        return left(species);
    }

    // ---- default and resale

    public int declareDefault() {
        allowed(s.phase == 3);
        int sum = 0;
        boolean some = false;
        for (int i = 0; i < s.species.size(); i++) {
            sum += left(i);
            some |= left(i) > 0;
        }
        allowed(s.debt.compareTo(big(s.contract.deposit)) > 0 || s.month >= s.term && some);
        change();
        s.phase = 5;
        return sum;
    }

    public long damages() {
        allowed(s.phase == 8);
        BigInteger sum = BigInteger.ZERO;
        for (int i = 0; i < s.species.size(); i++) {
            sum = sum.add(big(left(i)).multiply(big(rateIn(i, s.month / 3))));
        }
        int winner = ranking(valid(), volumes()).get(0);
        return sum.subtract(worth(s.bids.get(winner), volumes())).add(big(s.costs)).add(s.debt)
                .subtract(big(s.contract.deposit)).longValueExact();
    }

    public int undo() {
        allowed(!history.isEmpty());
        s = history.remove(history.size() - 1);
        return history.size();
    }
}
