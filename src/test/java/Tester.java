import java.util.NoSuchElementException;

/** What the tests share: comparing answers, expecting exceptions, and making sales from texts. */
final class Tester {
    interface Call {
        long answer();
    }

    interface Action {
        void run();
    }

    static final Class<? extends RuntimeException> INDEX = IndexOutOfBoundsException.class;
    static final Class<? extends RuntimeException> ARGUMENT = IllegalArgumentException.class;
    static final Class<? extends RuntimeException> STATE = IllegalStateException.class;
    static final Class<? extends RuntimeException> ELEMENT = NoSuchElementException.class;

    private int wrong;
    private int asked;
    private String topic = "";

    void topic(String name) {
        topic = name;
    }

    void due(String what, long want, Call call) {
        asked++;
        try {
            long got = call.answer();
            if (got != want) {
                complain(what, String.valueOf(got), String.valueOf(want));
            }
        } catch (RuntimeException thrown) {
            complain(what, thrown.getClass().getName(), String.valueOf(want));
        }
    }

    void due(String what, boolean want, boolean got) {
        due(what, want ? 1 : 0, () -> got ? 1 : 0);
    }

    void refused(String what, Class<? extends RuntimeException> want, Action action) {
        asked++;
        try {
            action.run();
            complain(what, "nothing thrown", want.getName());
        } catch (RuntimeException thrown) {
            // The very class: what the machine throws is a class below one of these.
            if (thrown.getClass() != want) {
                complain(what, thrown.getClass().getName(), want.getName());
            }
        }
    }

    private void complain(String what, String got, String want) {
        wrong++;
        System.out.println(topic + ": " + what + " answered " + got + ", due is " + want);
    }

    void end() {
        System.out.println(asked + " questions, " + wrong + " wrong");
        if (wrong != 0) {
            System.exit(1);
        }
    }

    /** Appends a text, filled up with spaces to a multiple of 20 bytes. */
    static void append(TimberSale sale, String text) {
        StringBuilder filled = new StringBuilder(text);
        while (filled.length() % 20 != 0) {
            filled.append(' ');
        }
        for (int at = 0; at < filled.length(); at += 20) {
            sale.append(four(filled, at), four(filled, at + 4), four(filled, at + 8),
                    four(filled, at + 12), four(filled, at + 16));
        }
    }

    private static int four(CharSequence text, int at) {
        return text.charAt(at) << 24 | (text.charAt(at + 1) & 255) << 16
                | (text.charAt(at + 2) & 255) << 8 | text.charAt(at + 3) & 255;
    }

    static int load(TimberSale sale, String text) {
        append(sale, text);
        return sale.load(text.length());
    }

    static TimberSale sale(String text) {
        TimberSale sale = new TimberSale();
        int answer = load(sale, text);
        if (answer < 0) {
            throw new AssertionError("error " + answer + " at " + sale.errorPosition() + " in " + text);
        }
        return sale;
    }

    /** Sets the rates and the deposit of a bid and seals it. */
    static void bid(TimberSale sale, int bidder, int deposit, int... rates) {
        for (int species = 0; species < rates.length; species++) {
            sale.offer(bidder, species, rates[species]);
        }
        sale.setDeposit(bidder, deposit);
        sale.seal(bidder);
    }
}
