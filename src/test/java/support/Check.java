import java.util.List;
import java.util.NoSuchElementException;
import java.util.Objects;
import java.util.concurrent.Callable;

/** Compares answers with those that are due, prints the wrong ones and ends the test. */
final class Check {
    /** Exactly these may leave a call; a subclass of one is an exception of the machine. */
    private static final List<Class<?>> DOCUMENTED = List.of(IndexOutOfBoundsException.class,
            IllegalArgumentException.class, IllegalStateException.class, UnsupportedOperationException.class,
            NoSuchElementException.class, ArithmeticException.class);

    private static int wrong = 0;
    private static int looked = 0;

    private Check() {
    }

    static void due(String call, Object due, Object got) {
        looked++;
        if (!Objects.equals(due, got)) {
            wrong++;
            System.out.println(call + " answered " + got + ", due is " + due);
        }
    }

    /** The call throws exactly this exception, no subclass of it, and leaves the dairy as it was. */
    static void refused(MilkRound dairy, String call, Class<? extends RuntimeException> due, Callable<?> made) {
        String before = Looks.at(dairy);
        due(call, "throws." + due.getSimpleName(), outcome(made));
        due("all looks after " + call, before, Looks.at(dairy));
    }

    static String outcome(Callable<?> made) {
        try {
            return String.valueOf(made.call());
        } catch (Exception e) {
            if (!DOCUMENTED.contains(e.getClass())) {
                due("a call", "no exception of the machine", e);
            }
            return "throws." + e.getClass().getSimpleName();
        }
    }

    static void end() {
        System.out.println(wrong == 0 ? looked + " answers are as due" : wrong + " answers are not as due");
        System.exit(wrong == 0 && looked > 0 ? 0 : 1);
    }
}
