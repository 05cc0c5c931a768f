import java.util.List;
import java.util.NoSuchElementException;
import java.util.Objects;
import java.util.concurrent.Callable;

/** Compares answers with those that are due, prints the wrong ones and ends the test. */
final class Check {
    /** Exactly these may leave a call; a subclass of one is an exception of the machine. */
    private static final List<Class<?>> DOCUMENTED = List.of(IndexOutOfBoundsException.class,
            IllegalArgumentException.class, IllegalStateException.class, UnsupportedOperationException.class,
            NoSuchElementException.class, ArithmeticException.class);

    private static int wrong = 0;
    private static int looked = 0;

    private Check() {
    }

    static int wrong() {
        return wrong;
    }

    static int looked() {
        return looked;
    }

    static void due(String call, Object due, Object got) {
        looked++;
        if (!Objects.equals(due, got)) {
            wrong++;
            System.out.println(call + " answered " + got + ", due is " + due);
        }
    }

    static void noIndex(MilkRound dairy, String call, Callable<?> made) {
        refused(dairy, call, IndexOutOfBoundsException.class, made);
    }

    static void badArgument(MilkRound dairy, String call, Callable<?> made) {
        refused(dairy, call, IllegalArgumentException.class, made);
    }

    static void badState(MilkRound dairy, String call, Callable<?> made) {
        refused(dairy, call, IllegalStateException.class, made);
    }

    static void unsupported(MilkRound dairy, String call, Callable<?> made) {
        refused(dairy, call, UnsupportedOperationException.class, made);
    }

    static void noElement(MilkRound dairy, String call, Callable<?> made) {
        refused(dairy, call, NoSuchElementException.class, made);
    }

    static void arithmetic(MilkRound dairy, String call, Callable<?> made) {
        refused(dairy, call, ArithmeticException.class, made);
    }

    /** The call throws exactly this exception, no subclass of it, and leaves the dairy as it was. */
    private static void refused(MilkRound dairy, String call, Class<?> due, Callable<?> made) {
        String before = Looks.brief(dairy);
        due(call, "throws." + due.getSimpleName(), outcome(made));
        due("what is seen after " + call, before, Looks.brief(dairy));
    }

    static String outcome(Callable<?> made) {
        try {
            return String.valueOf(made.call());
        } catch (Exception e) {
            if (!DOCUMENTED.contains(e.getClass())) {
                due("a call", "no exception of the machine", e);
            }
            return "throws." + e.getClass().getSimpleName();
        }
    }

    static void end() {
        System.out.println(wrong == 0 ? looked + " answers are as due" : wrong + " answers are not as due");
        System.exit(wrong == 0 && looked > 0 ? 0 : 1);
    }
}
