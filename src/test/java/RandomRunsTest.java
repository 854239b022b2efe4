import java.lang.reflect.InvocationTargetException;
import java.lang.reflect.Method;
import java.util.ArrayList;
import java.util.Arrays;
import java.util.HashMap;
import java.util.List;
import java.util.Map;
import java.util.Random;
import java.util.TreeMap;

/** Long runs of calls, made by a fixed seed, on the class and on the model; both must agree. */
public final class RandomRunsTest {
    private static final int CALLS = 512;
    private static final String[] QUESTIONS = {
        "errorPosition", "phase", "plotCount", "estimate", "squaredError", "isAccurate", "neededPlots",
        "mostInfluentialPlot", "volume", "problem", "value", "rank", "turningPoint", "leastWinningRate",
        "rate", "indexFor", "worstCheck", "scaled", "cutShare", "net", "factor", "month", "charge", "debt",
        "projectedDebt", "adjustment", "remaining", "damages",
    };
    private static final String[] CHANGES = {
        "addPlot", "removePlot", "advertise", "offer", "setDeposit", "seal", "withdraw", "open", "award",
        "setIndex", "scale", "check", "voidLoad", "endMonth", "pay", "close", "declareDefault", "undo", "load",
    };
    // What a run does most in each phase; a name that stands twice is taken twice as often.
    private static final String[][] USUAL = {
        {"addPlot", "addPlot", "addPlot", "removePlot", "advertise", "advertise"},
        {"offer", "offer", "offer", "setDeposit", "seal", "bid", "bid", "bid", "withdraw", "open"},
        {"award"},
        {"scale", "scale", "scale", "scale", "check", "check", "check", "voidLoad", "voidLoad", "setIndex",
            "setIndex", "endMonth", "endMonth", "pay", "end"},
        {"pay", "undo", "undo", "text"},
        {"advertise", "advertise", "undo"},
        {"offer", "offer", "offer", "setDeposit", "seal", "bid", "bid", "bid", "withdraw", "open"},
        {"award"},
        {"undo", "text", "damages"},
    };

    private final Random random;
    private final Map<String, Method> real = methodsOf(TimberSale.class);
    private final Map<String, Method> due = methodsOf(Model.class);
    private final Map<String, Integer> answered = new TreeMap<>();
    private final List<String> told = new ArrayList<>();
    private TimberSale sale;
    private Model model;
    private boolean isSmall;
    private int left;

    private RandomRunsTest(long seed) {
        random = new Random(seed);
    }

    public static void main(String[] args) {
        int runs = args.length > 0 ? Integer.parseInt(args[0]) : 400;
        long seed = args.length > 1 ? Long.parseLong(args[1]) : 20261118L;
        RandomRunsTest test = new RandomRunsTest(seed);
        for (int run = 0; run < runs; run++) {
            if (!test.run()) {
                System.out.println("in run " + run + " of seed " + seed);
                System.exit(1);
            }
        }
        System.out.println(runs + " runs of " + CALLS + " calls agree with the model");
        test.requireEveryAnswer();
        if (args.length > 0) {
            System.out.println(test.answered);
        }
    }

    private static Map<String, Method> methodsOf(Class<?> type) {
        Map<String, Method> methods = new HashMap<>();
        for (Method method : type.getDeclaredMethods()) {
            if (java.lang.reflect.Modifier.isPublic(method.getModifiers())) {
                method.setAccessible(true);
                methods.put(method.getName(), method);
            }
        }
        return methods;
    }

    /** A run that never gets somewhere shows nothing, so each method must have answered at times. */
    private void requireEveryAnswer() {
        for (String name : due.keySet()) {
            if (answered.getOrDefault(name, 0) < 10) {
                System.out.println(name + " answered only " + answered.getOrDefault(name, 0) + " times");
                System.exit(1);
            }
        }
    }

    private boolean run() {
        sale = new TimberSale();
        model = new Model();
        told.clear();
        left = CALLS;
        isSmall = random.nextInt(3) == 0;
        if (random.nextInt(20) != 0 && !appendAndLoad()) {
            return false;
        }
        while (left > 0) {
            if (!step()) {
                return false;
            }
        }
        return true;
    }

    private boolean step() {
        int kind = random.nextInt(100);
        if (kind < 45) {
            return call(pick(QUESTIONS));
        }
        if (kind < 50) {
            return call(pick(CHANGES));
        }
        if (kind < 52) {
            return call("undo");
        }
        if (random.nextInt(150) == 0) {
            return appendAndLoad();
        }
        String usual = pick(USUAL[model.phase()]);
        if (usual.equals("text")) {
            return random.nextInt(8) != 0 || appendAndLoad();
        }
        if (usual.equals("end")) {
            return random.nextInt(3) != 0 || call(random.nextInt(4) == 0 ? "close" : "declareDefault");
        }
        return usual.equals("bid") ? bid() : call(usual);
    }

    private boolean bid() {
        int bidder = random.nextInt(8);
        for (int species = 0; species < 6 && isSpecies(species); species++) {
            if (!both("offer", bidder, species, usualRate())) {
                return false;
            }
        }
        return both("setDeposit", bidder, random.nextInt(5) == 0 ? number(0, 1000000000) : 1000000000)
                && both("seal", bidder);
    }

    private boolean isSpecies(int species) {
        try {
            model.volume(species);
            return true;
        } catch (IndexOutOfBoundsException thrown) {
            return false;
        }
    }

    private int usualRate() {
        return isSmall ? 5 + random.nextInt(8) : 900 + random.nextInt(random.nextBoolean() ? 300 : 999100);
    }

    // ---- arguments

    private String pick(String[] names) {
        return names[random.nextInt(names.length)];
    }

    /** A number that is mostly in its range, now and then at an edge or just outside. */
    private int number(int least, int greatest) {
        switch (random.nextInt(24)) {
            case 0: return least - 1;
            case 1: return greatest + 1;
            case 2: return least;
            case 3: return greatest;
            case 4: return random.nextInt(10) == 0 ? random.nextInt() : least;
            default: return least + (int) (random.nextDouble() * ((double) greatest - least + 1));
        }
    }

    private int species(int least) {
        return random.nextInt(12) == 0 ? number(least, 5) : least + random.nextInt(3 - least);
    }

    private int gross() {
        return random.nextInt(4) == 0 ? number(1, 10000) : random.nextInt(4) == 0 ? number(1, 6) : number(1, 2000);
    }

    private int loadNumber() {
        return random.nextInt(6) == 0 ? number(0, 60) : random.nextInt(12);
    }

    private Object[] argumentsOf(String name) {
        switch (name) {
            case "load": return new Object[] {number(0, 40)};
            case "addPlot": return plot();
            case "removePlot": return new Object[] {number(0, 8)};
            case "estimate":
            case "squaredError": return new Object[] {species(-1), random.nextBoolean()};
            case "isAccurate":
            case "neededPlots": return new Object[] {species(-1), number(1, 20)};
            case "mostInfluentialPlot": return new Object[] {species(-1)};
            case "volume":
            case "turningPoint":
            case "remaining": return new Object[] {species(0)};
            case "offer": return new Object[] {number(0, 7), species(0),
                random.nextInt(4) == 0 ? number(0, 1000000) : usualRate()};
            case "setDeposit": return new Object[] {number(0, 7), number(0, 1000000000)};
            case "seal":
            case "withdraw":
            case "problem":
            case "value":
            case "rank": return new Object[] {number(0, 7)};
            case "leastWinningRate": return new Object[] {number(0, 7), species(0)};
            case "setIndex": return new Object[] {number(0, 11), species(0), number(1, isSmall ? 300 : 10000)};
            case "rate": return new Object[] {species(0), number(0, 11)};
            case "indexFor": return new Object[] {species(0),
                random.nextInt(3) == 0 ? number(0, 1000000) : number(0, isSmall ? 40 : 12000)};
            case "scale": return new Object[] {species(0), gross(), number(0, 100)};
            case "check": return new Object[] {loadNumber(), gross(), number(0, 100)};
            case "voidLoad":
            case "net": return new Object[] {loadNumber()};
            case "scaled": return new Object[] {species(-1), number(0, 12), number(0, 36)};
            case "cutShare":
            case "factor": return new Object[] {random.nextBoolean()};
            case "charge": return new Object[] {random.nextInt(4) == 0 ? number(0, 35) : random.nextInt(6)};
            case "pay": return new Object[] {random.nextInt(3) == 0 ? number(1, 1000000000) : number(1, 100000)};
            case "projectedDebt": return new Object[] {number(1, 12)};
            default: return new Object[0];
        }
    }

    private Object[] plot() {
        Object[] plot = {0, 0, 0, 0, 0, 0};
        for (int species = 0; species < 6; species++) {
            if (random.nextInt(15) == 0) {
                plot[species] = number(0, 500);
            } else if (species < 3) {
                plot[species] = isSmall ? random.nextInt(4) : random.nextInt(501);
            }
        }
        if (random.nextBoolean()) {
            plot[2] = 0;
        }
        return plot;
    }

    // ---- texts

    private boolean appendAndLoad() {
        StringBuilder text = text();
        if (random.nextInt(5) == 0) {
            spoil(text);
        }
        int length = Math.min(800, text.length());
        text.setLength(length);
        while (text.length() % 20 != 0) {
            text.append((char) random.nextInt(256));
        }
        for (int at = 0; at < text.length(); at += 20) {
            if (!both("append", four(text, at), four(text, at + 4), four(text, at + 8), four(text, at + 12),
                    four(text, at + 16))) {
                return false;
            }
        }
        return both("load", length) && call("errorPosition");
    }

    private static int four(StringBuilder text, int at) {
        return text.charAt(at) << 24 | text.charAt(at + 1) << 16 | text.charAt(at + 2) << 8 | text.charAt(at + 3);
    }

    private StringBuilder text() {
        StringBuilder text = new StringBuilder();
        int size = random.nextInt(6) == 0 ? 200 : 2 + random.nextInt(isSmall ? 12 : 60);
        text.append("sale");
        addNumber(text, inRange(size, 2, 200));
        addNumber(text, inRange(1 + random.nextInt(6), 1, 35));
        addNumber(text, inRange(random.nextInt(12), 0, 50));
        addNumber(text, inRange(random.nextInt(101), 0, 100));
        addNumber(text, inRange(random.nextInt(10), 0, 20));
        addNumber(text, inRange(random.nextInt(51), 0, 50));
        addNumber(text, inRange(random.nextInt(100000), 0, 1000000));
        text.append(gap()).append(';');
        int kinds = random.nextInt(10) == 0 ? random.nextInt(8) : 2 + random.nextInt(2);
        for (int i = 0; i < kinds; i++) {
            text.append(gap()).append("species");
            addNumber(text, inRange(isSmall ? random.nextInt(6) : random.nextInt(1000), 0, 100000));
            addNumber(text, inRange(1 + random.nextInt(isSmall ? 300 : 10000), 1, 10000));
            text.append(gap()).append(';');
        }
        int plots = random.nextInt(20) == 0 ? 29 + random.nextInt(3) : random.nextInt(Math.min(size, 12) + 1);
        for (int i = 0; i < plots; i++) {
            text.append(gap()).append("plot");
            for (int j = 0; j < kinds; j++) {
                addNumber(text, inRange(isSmall ? random.nextInt(4) : random.nextInt(501), 0, 500));
            }
            text.append(gap()).append(';');
        }
        return text.append(gap());
    }

    private int inRange(int usual, int least, int greatest) {
        switch (random.nextInt(400)) {
            case 0: return Math.max(0, least - 1);
            case 1: return greatest + 1;
            case 2: return least;
            case 3: return greatest;
            default: return usual;
        }
    }

    private String gap() {
        return random.nextInt(12) == 0 ? "  " : "";
    }

    private void addNumber(StringBuilder text, int number) {
        char last = text.charAt(text.length() - 1);
        if (last >= '0' && last <= '9' || random.nextInt(3) == 0) {
            text.append(' ');
        }
        text.append(gap()).append(random.nextInt(30) == 0 ? "000000000000" : "").append(number);
    }

    private void spoil(StringBuilder text) {
        int at = random.nextInt(text.length());
        String signs = "; 09azsplot{`/:A";
        switch (random.nextInt(4)) {
            case 0: text.setLength(at); break;
            case 1: text.deleteCharAt(at); break;
            case 2: text.insert(at, signs.charAt(random.nextInt(signs.length()))); break;
            default: text.setCharAt(at, (char) random.nextInt(256)); break;
        }
    }

    // ---- both

    private boolean call(String name) {
        return both(name, argumentsOf(name));
    }

    private boolean both(String name, Object... arguments) {
        left--;
        if (left < 0) {
            return true;
        }
        String want = answer(due.get(name), model, arguments);
        String got = answer(real.get(name), sale, arguments);
        told.add(name + Arrays.toString(arguments) + " = " + got);
        if (!want.startsWith("throws")) {
            answered.merge(name, 1, Integer::sum);
        }
        if (want.equals(got)) {
            return true;
        }
        told.forEach(System.out::println);
        System.out.println("due is " + want);
        return false;
    }

    private static String answer(Method method, Object on, Object[] arguments) {
        try {
            return String.valueOf(method.invoke(on, arguments));
        } catch (InvocationTargetException thrown) {
            return "throws." + thrown.getCause().getClass().getName();
        } catch (IllegalAccessException thrown) {
            throw new AssertionError(thrown);
        }
    }
}
