import java.lang.reflect.Constructor;
import java.lang.reflect.Field;
import java.lang.reflect.Method;
import java.lang.reflect.Modifier;
import java.util.Arrays;
import java.util.Set;
import java.util.TreeSet;

/** The public face: the members that the document names, and no others. */
public final class FaceTest {
    private static final String[] METHODS = {
        "int append(int,int,int,int,int) IllegalStateException",
        "int load(int) IllegalArgumentException",
        "int errorPosition()",
        "int phase()",
        "int plotCount()",
        "int addPlot(int,int,int,int,int,int) IllegalArgumentException IllegalStateException",
        "int removePlot(int) IndexOutOfBoundsException IllegalStateException",
        "long estimate(int,boolean) IndexOutOfBoundsException IllegalStateException",
        "long squaredError(int,boolean) IndexOutOfBoundsException IllegalStateException",
        "boolean isAccurate(int,int) IndexOutOfBoundsException IllegalArgumentException IllegalStateException",
        "int neededPlots(int,int) IndexOutOfBoundsException IllegalArgumentException IllegalStateException",
        "int mostInfluentialPlot(int) IndexOutOfBoundsException IllegalStateException",
        "int advertise() IllegalStateException",
        "int volume(int) IndexOutOfBoundsException IllegalStateException",
        "int offer(int,int,int) IndexOutOfBoundsException IllegalArgumentException IllegalStateException",
        "int setDeposit(int,int) IndexOutOfBoundsException IllegalArgumentException IllegalStateException",
        "int seal(int) IndexOutOfBoundsException IllegalStateException",
        "void withdraw(int) IndexOutOfBoundsException IllegalStateException",
        "int open() IllegalStateException",
        "int problem(int) IndexOutOfBoundsException IllegalStateException",
        "long value(int) IndexOutOfBoundsException IllegalStateException",
        "int rank(int) IndexOutOfBoundsException IllegalStateException",
        "int turningPoint(int) IndexOutOfBoundsException IllegalStateException NoSuchElementException",
        "int leastWinningRate(int,int) IndexOutOfBoundsException IllegalStateException NoSuchElementException",
        "int award() IllegalStateException NoSuchElementException",
        "void setIndex(int,int,int) IndexOutOfBoundsException IllegalArgumentException IllegalStateException",
        "int rate(int,int) IndexOutOfBoundsException IllegalStateException",
        "int indexFor(int,int) IndexOutOfBoundsException IllegalArgumentException IllegalStateException NoSuchElementException",
        "int scale(int,int,int) IndexOutOfBoundsException IllegalArgumentException IllegalStateException",
        "int check(int,int,int) IndexOutOfBoundsException IllegalArgumentException IllegalStateException",
        "int voidLoad(int) IndexOutOfBoundsException IllegalStateException",
        "int worstCheck() NoSuchElementException",
        "int scaled(int,int,int) IndexOutOfBoundsException IllegalArgumentException IllegalStateException",
        "long cutShare(boolean) IllegalStateException",
        "int net(int) IndexOutOfBoundsException",
        "int factor(boolean)",
        "int month()",
        "long endMonth() IllegalStateException",
        "long charge(int) IndexOutOfBoundsException IllegalStateException",
        "long pay(int) IllegalArgumentException IllegalStateException",
        "long debt()",
        "long projectedDebt(int) IllegalArgumentException IllegalStateException",
        "long adjustment()",
        "long close() IllegalStateException",
        "int remaining(int) IndexOutOfBoundsException IllegalStateException",
        "int declareDefault() IllegalStateException",
        "long damages() IllegalStateException",
        "int undo() IllegalStateException",
    };

    public static void main(String[] args) {
        Tester t = new Tester();
        t.topic("the face");
        t.due("the class is final", true, Modifier.isFinal(TimberSale.class.getModifiers()));
        t.due("the class is public", true, Modifier.isPublic(TimberSale.class.getModifiers()));

        Set<String> seen = new TreeSet<>();
        Set<String> hidden = new TreeSet<>();
        for (Method method : TimberSale.class.getDeclaredMethods()) {
            if (Modifier.isPrivate(method.getModifiers())) {
                hidden.add(method.getName());
            } else {
                seen.add(described(method));
            }
        }
        Set<String> wanted = new TreeSet<>(Arrays.asList(METHODS));
        t.due("every method of the document: " + without(wanted, seen), true, seen.containsAll(wanted));
        t.due("no other method: " + without(seen, wanted), true, wanted.containsAll(seen));
        for (String line : METHODS) {
            String name = line.substring(line.indexOf(' ') + 1, line.indexOf('('));
            t.due("no private method is named " + name, false, hidden.contains(name));
        }

        Constructor<?>[] made = TimberSale.class.getDeclaredConstructors();
        t.due("one constructor", 1, () -> made.length);
        t.due("without parameters", 0, () -> made[0].getParameterCount());
        t.due("which is public", true, Modifier.isPublic(made[0].getModifiers()));

        Set<String> constants = new TreeSet<>();
        for (Field field : TimberSale.class.getDeclaredFields()) {
            if (!Modifier.isPrivate(field.getModifiers())) {
                constants.add(field.getName());
            }
        }
        t.due("the constants: " + constants, true, constants.equals(
                new TreeSet<>(Arrays.asList("NONE", "SYNTAX_ERROR", "VALUE_ERROR", "TOO_MANY"))));
        t.due("NONE", -1, () -> TimberSale.NONE);
        t.due("SYNTAX_ERROR", -2, () -> TimberSale.SYNTAX_ERROR);
        t.due("VALUE_ERROR", -3, () -> TimberSale.VALUE_ERROR);
        t.due("TOO_MANY", -4, () -> TimberSale.TOO_MANY);
        t.end();
    }

    private static String described(Method method) {
        StringBuilder line = new StringBuilder(method.getReturnType().getName());
        line.append(' ').append(method.getName()).append('(');
        for (int at = 0; at < method.getParameterCount(); at++) {
            line.append(at == 0 ? "" : ",").append(method.getParameterTypes()[at].getName());
        }
        line.append(')');
        for (Class<?> thrown : method.getExceptionTypes()) {
            line.append(' ').append(thrown.getSimpleName());
        }
        return line.toString();
    }

    private static Set<String> without(Set<String> all, Set<String> others) {
        Set<String> rest = new TreeSet<>(all);
        rest.removeAll(others);
        return rest;
    }
}
