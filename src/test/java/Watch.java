import java.util.List;
import java.util.function.Supplier;

/**
 * Tells all that can be seen of a sale, so that two sales, or one at two times, can be compared. It
 * asks some 270 questions at a time, each time of a sale that the maker makes anew, because an object
 * promises nothing after its 512th call.
 */
final class Watch {
    private Watch() {
    }

    /** All that the questions answer, and the bids that are not opened yet. */
    static String everything(Supplier<TimberSale> maker) {
        return questions(maker.get()) + hiddenBids(maker.get());
    }

    /** What shows only later, too: what each undo brings back, how many there are, and the text buffer. */
    static String aftermath(Supplier<TimberSale> maker) {
        StringBuilder text = new StringBuilder();
        for (int undone = 0; undone <= 10; undone++) {
            TimberSale sale = maker.get();
            text.append("\nundo");
            for (int change = 0; change < undone; change++) {
                text.append(' ').append(answer(sale::undo));
            }
            text.append(' ').append(sale.errorPosition()).append(' ').append(questions(sale));
        }
        text.append("\nbids ").append(hiddenBids(maker.get()));
        return text.append("\ntext ").append(buffer(maker)).toString();
    }

    private static String questions(TimberSale sale) {
        StringBuilder text = new StringBuilder();
        tell(text, List.of(sale::phase, sale::plotCount, sale::month, sale::debt, sale::adjustment,
                sale::worstCheck, sale::damages, () -> sale.factor(false), () -> sale.factor(true)));
        tell(text, List.of(() -> sale.cutShare(false), () -> sale.cutShare(true)));
        for (int number = -1; number < 12; number++) {
            int which = number;
            tell(text, List.of(() -> sale.estimate(which, false), () -> sale.estimate(which, true),
                    () -> sale.squaredError(which, false), () -> sale.neededPlots(which, 5),
                    () -> sale.mostInfluentialPlot(which), () -> sale.volume(which), () -> sale.problem(which),
                    () -> sale.value(which), () -> sale.rank(which), () -> sale.turningPoint(which)));
            tell(text, List.of(() -> sale.leastWinningRate(which, 0), () -> sale.leastWinningRate(which, 1),
                    () -> sale.rate(0, which), () -> sale.rate(1, which), () -> sale.indexFor(which, 120),
                    () -> sale.net(which), () -> sale.scaled(which, 0, 36), () -> sale.charge(which),
                    () -> sale.projectedDebt(which), () -> sale.remaining(which)));
        }
        return text.toString();
    }

    private static void tell(StringBuilder text, List<Tester.Call> calls) {
        for (Tester.Call call : calls) {
            text.append(answer(call)).append(' ');
        }
    }

    /** The bids before they are opened, which only changes tell; the latest of them are undone. */
    private static String hiddenBids(TimberSale sale) {
        if (sale.phase() != 1 && sale.phase() != 6) {
            return "";
        }
        StringBuilder text = new StringBuilder();
        for (int bidder = 0; bidder < 8; bidder++) {
            int which = bidder;
            text.append(undone(sale, () -> sale.offer(which, 0, 0)));
            text.append(undone(sale, () -> sale.offer(which, 1, 0)));
            text.append(undone(sale, () -> sale.setDeposit(which, 0)));
            text.append(undone(sale, () -> sale.seal(which)));
        }
        return text.toString();
    }

    private static String undone(TimberSale sale, Tester.Call change) {
        String told = answer(change);
        if (!told.startsWith("java")) {
            sale.undo();
        }
        return told + ' ';
    }

    /** The length of the buffer, and how its text is read. */
    private static String buffer(Supplier<TimberSale> maker) {
        TimberSale longer = maker.get();
        String length = answer(() -> longer.append(0, 0, 0, 0, 0));
        TimberSale read = maker.get();
        String answer = "nothing";
        for (int bytes = 800; bytes >= 0 && !isNumber(answer); bytes -= 20) {
            int size = bytes;
            answer = answer(() -> read.load(size));
        }
        return length + ' ' + answer + ' ' + read.errorPosition() + ' ' + questions(read);
    }

    private static boolean isNumber(String answer) {
        return Character.isDigit(answer.charAt(0)) || answer.charAt(0) == '-';
    }

    static String answer(Tester.Call call) {
        try {
            return String.valueOf(call.answer());
        } catch (RuntimeException thrown) {
            return thrown.getClass().getName();
        }
    }
}
