import java.lang.reflect.Method;
import java.lang.reflect.Modifier;
import java.util.Arrays;
import java.util.List;

/**
 * Runs of 512 calls, always the same ones, whose answers are compared with those of PlainDairy: over
 * all promises, and above all over their mixtures.
 */
public final class RandomRunsTest {
    private static final int RUNS = 1500;
    /** What is promised ends there. */
    private static final int CALLS = 512;
    private static final int CALLS_BEFORE_THE_LAST_LOOKS = 420;
    private static final List<String> FACE = Arrays.stream(PlainDairy.class.getDeclaredMethods())
            .filter(method -> Modifier.isPublic(method.getModifiers())).map(Method::getName).sorted().toList();

    private final int run;
    private long seed;
    private final MilkRound dairy = new MilkRound();
    private final PlainDairy plain = new PlainDairy();
    private int calls = 0;
    private boolean underWay = false;
    private int nextFarm = 0;
    private int nextGrade = 0;
    /** Runs to and beyond the limits need little milk, few refusals and few looks. */
    private final boolean towardsLimits;
    /** How many times in 8 an argument may be wrong, a vat is closed, and a grade is 'x'. */
    private final int wrong;
    private final int closing;
    private final int spoiling;

    private RandomRunsTest(int run) {
        this.run = run;
        seed = run * 7919L + 17;
        towardsLimits = below(2) == 0;
        wrong = towardsLimits ? below(2) : below(4);
        closing = below(6);
        spoiling = below(5);
    }

    public static void main(String[] args) {
        Check.due("the methods of PlainDairy", 30, FACE.size());
        for (int run = 0; run < RUNS; run++) {
            new RandomRunsTest(run).run();
        }
        Check.end();
    }

    private void run() {
        begin();
        while (calls < CALLS_BEFORE_THE_LAST_LOOKS) {
            if (below(towardsLimits ? 16 : 3) == 0) {
                call(FACE.get(below(FACE.size())));
            } else {
                goOn();
            }
        }
        lookAtTheLast();
    }

    /** Without some farms, cows and vats at first, most runs would spend their calls on refusals. */
    private void begin() {
        int farms = towardsLimits ? 6 : 1 + below(6);
        for (int farm = 0; farm < farms; farm++) {
            compare("addFarm", towardsLimits ? 10 : 10 + below(191));
            compare("addCow", farm, towardsLimits ? 5 : 5 + below(26));
        }
        int vats = 1 + below(towardsLimits ? 2 : 4);
        for (int vat = 0; vat < vats; vat++) {
            compare("addVat", 100 + below(801));
        }
    }

    /** Mostly what a dairy would do next. */
    private void goOn() {
        int chance = below(16);
        if (chance < 2) {
            call("pass");
        } else if (chance < 6) {
            compare("grade", gradeNext(), grade());
        } else if (chance < 7) {
            call(below(8) < closing ? "close" : "bestVat");
        } else if (!underWay) {
            compare("beginRound");
        } else if (nextFarm < 6) {
            compare("visit", nextFarm++);
        } else {
            call("endRound");
        }
    }

    private void call(String name) {
        switch (name) {
            case "addFarm" -> compare(name, edge(10, 200));
            case "addCow" -> compare(name, number(6), edge(5, 30));
            case "milkOf" -> compare(name, number(6), edge(0, 999));
            case "pass" -> compare(name, edge(1, below(8) == 0 ? 30 : 2));
            case "addVat" -> compare(name, edge(100, 900));
            case "inTank", "visit", "pay", "blame", "balanceBySamples" -> compare(name, number(6));
            case "endRound", "inVat", "close" -> compare(name, number(towardsLimits ? 2 : 4));
            case "farmOf", "litres", "gradeOf", "wayOf" -> compare(name, number(plain.samples()));
            case "grade" -> compare(name, number(plain.samples()), grade());
            case "stateOf", "worth", "loss" -> compare(name, number(plain.batches()));
            case "share" -> compare(name, number(plain.batches()), number(below(61)));
            default -> compare(name);
        }
    }

    private void lookAtTheLast() {
        for (String name : List.of("day", "samples", "batches", "inTanker", "bestVat", "spoiltShare", "meanPay")) {
            compare(name);
        }
        for (int farm = 0; farm < 6; farm++) {
            compare("inTank", farm);
            compare("pay", farm);
            compare("blame", farm);
            compare("balanceBySamples", farm);
        }
        for (int batch = 0; batch < plain.batches(); batch++) {
            compare("stateOf", batch);
            compare("worth", batch);
            compare("loss", batch);
        }
        Check.due("run " + run + " ends within " + CALLS, true, calls <= CALLS);
    }

    private void compare(String name, Object... arguments) {
        calls++;
        Call call = new Call(name, arguments);
        String due = call.on(plain);
        Check.due("run " + run + ", call " + calls + ": " + call, due, call.on(dairy));
        follow(name, !due.startsWith("throws."));
    }

    private void follow(String name, boolean done) {
        if (name.equals("beginRound") && done) {
            underWay = true;
            nextFarm = below(3);
        } else if (name.equals("endRound") && done) {
            underWay = false;
        }
    }

    private int gradeNext() {
        return below(8) == 0 || nextGrade >= plain.samples() ? number(plain.samples()) : nextGrade++;
    }

    private char grade() {
        if (below(8) < wrong && below(3) == 0) {
            return "-dXA ".charAt(below(5));
        }
        return below(16) < spoiling ? 'x' : "abc".charAt(below(3));
    }

    private int number(int count) {
        if (below(8) < wrong && below(3) == 0) {
            return List.of(-1, count, count + 1, Integer.MIN_VALUE, Integer.MAX_VALUE).get(below(5));
        }
        return count > 0 ? below(count) : 0;
    }

    private int edge(int least, int most) {
        if (below(8) < wrong) {
            return List.of(least - 1, least, most, most + 1, Integer.MAX_VALUE).get(below(5));
        }
        return least + below(most - least + 1);
    }

    private int below(int bound) {
        seed = seed * 6364136223846793005L + 1442695040888963407L;
        return (int) Math.floorMod(seed >>> 33, (long) bound);
    }
}
