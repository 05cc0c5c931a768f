import java.lang.reflect.InvocationTargetException;
import java.lang.reflect.Method;
import java.util.Arrays;
import java.util.Comparator;
import java.util.List;

/**
 * Runs of 512 calls, always the same ones, whose answers are compared with those of PlainDairy: over
 * all promises, and above all over their mixtures.
 */
public final class RandomRunsTest {
    private static final int RUNS = 1500;
    private static final int CALLS = 512;
    private static final List<Method> FACE = Arrays.stream(PlainDairy.class.getDeclaredMethods())
            .filter(method -> java.lang.reflect.Modifier.isPublic(method.getModifiers()))
            .sorted(Comparator.comparing(Method::getName)).toList();
    private static final List<String> WRITES = List.of("addFarm", "addCow", "pass", "addVat", "beginRound", "visit",
            "visit", "visit", "visit", "endRound", "endRound", "close", "grade", "grade", "grade");

    private long seed;
    private final MilkRound dairy = new MilkRound();
    private final PlainDairy plain = new PlainDairy();
    /** Of 8 litres of chance, how many a wrong argument, a close and a spoilt grade have. */
    private final int wrong;
    private final int closing;
    private final int spoiling;
    private final boolean small;

    private RandomRunsTest(int run) {
        seed = run * 7919L + 17;
        wrong = below(3);
        closing = 1 + below(8);
        spoiling = below(4);
        small = below(3) == 0;
    }

    public static void main(String[] args) throws Exception {
        Check.due("the methods of PlainDairy", 30, FACE.size());
        for (int run = 0; run < RUNS; run++) {
            new RandomRunsTest(run).run(run);
        }
        Check.end();
    }

    private void run(int run) throws Exception {
        begin();
        for (int call = 0; call < CALLS - 40; call++) {
            String name = below(3) > 0 ? WRITES.get(below(WRITES.size())) : FACE.get(below(FACE.size())).getName();
            if (name.equals("close") && below(8) >= closing) {
                name = "bestVat";
            }
            call(run, name);
        }
    }

    /** Without some farms, cows and vats at first, most runs would spend their calls on refusals. */
    private void begin() throws Exception {
        for (int farm = 0; farm < 3 + below(4); farm++) {
            compare(-1, "addFarm", small ? 10 : 10 + below(191));
            compare(-1, "addCow", farm, small ? 5 : 5 + below(26));
        }
        for (int vat = 0; vat < 1 + below(4); vat++) {
            compare(-1, "addVat", 100 + below(801));
        }
    }

    private void call(int run, String name) throws Exception {
        switch (name) {
            case "addFarm" -> compare(run, name, edge(10, 200));
            case "addCow" -> compare(run, name, number(6), edge(5, 30));
            case "milkOf" -> compare(run, name, number(6), edge(0, 999));
            case "pass" -> compare(run, name, small ? edge(1, 2) : edge(1, 30));
            case "addVat" -> compare(run, name, edge(100, 900));
            case "inTank", "visit", "pay", "blame", "balanceBySamples" -> compare(run, name, number(6));
            case "endRound", "inVat", "close" -> compare(run, name, number(4));
            case "farmOf", "litres", "gradeOf", "wayOf" -> compare(run, name, number(plain.samples()));
            case "grade" -> compare(run, name, number(plain.samples()), grade());
            case "stateOf", "worth", "loss" -> compare(run, name, number(plain.batches()));
            case "share" -> compare(run, name, number(plain.batches()), number(below(61)));
            default -> compare(run, name);
        }
    }

    private void compare(int run, String name, Object... arguments) throws Exception {
        Method due = FACE.stream().filter(each -> each.getName().equals(name)).findFirst().orElseThrow();
        Method got = MilkRound.class.getMethod(name, due.getParameterTypes());
        String call = "run " + run + ": " + name + Arrays.toString(arguments);
        Check.due(call, answer(due, plain, arguments), answer(got, dairy, arguments));
    }

    private static String answer(Method method, Object of, Object... arguments) throws IllegalAccessException {
        try {
            return String.valueOf(method.invoke(of, arguments));
        } catch (InvocationTargetException e) {
            return "throws." + e.getCause().getClass().getSimpleName();
        }
    }

    private int number(int count) {
        if (below(8) < wrong && below(3) == 0) {
            return List.of(-1, count, count + 1, Integer.MIN_VALUE, Integer.MAX_VALUE).get(below(5));
        }
        return count > 0 ? below(count) : 0;
    }

    private int edge(int least, int most) {
        if (below(8) < wrong) {
            return List.of(least - 1, least, most, most + 1, Integer.MAX_VALUE).get(below(5));
        }
        return least + below(most - least + 1);
    }

    private char grade() {
        if (below(8) < wrong && below(3) == 0) {
            return "-dXA ".charAt(below(5));
        }
        return below(8) < spoiling ? 'x' : "abc".charAt(below(3));
    }

    private int below(int bound) {
        seed = seed * 6364136223846793005L + 1442695040888963407L;
        return (int) Math.floorMod(seed >>> 33, (long) bound);
    }
}
