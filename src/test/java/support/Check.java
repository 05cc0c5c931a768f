import java.util.Objects;
import java.util.concurrent.Callable;

/** Compares answers with those that are due, prints the wrong ones and ends the test. */
final class Check {
    private static int wrong = 0;
    private static int looked = 0;

    private Check() {
    }

    static void due(String call, Object due, Object got) {
        looked++;
        if (!Objects.equals(due, got)) {
            wrong++;
            System.out.println(call + " answered " + got + ", due is " + due);
        }
    }

    /** The call throws exactly this exception, no subclass of it, and leaves the dairy as it was. */
    static void refused(MilkRound dairy, String call, Class<? extends RuntimeException> due, Callable<?> made) {
        String before = Looks.at(dairy);
        due(call, "throws." + due.getSimpleName(), outcome(made));
        due("all looks after " + call, before, Looks.at(dairy));
    }

    static String outcome(Callable<?> made) {
        try {
            return String.valueOf(made.call());
        } catch (Exception e) {
            return "throws." + e.getClass().getSimpleName();
        }
    }

    static void end() {
        System.out.println(wrong == 0 ? looked + " answers are as due" : wrong + " answers are not as due");
        System.exit(wrong == 0 && looked > 0 ? 0 : 1);
    }
}
