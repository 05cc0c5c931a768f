import java.util.ArrayList;
import java.util.List;
import java.util.function.Function;
import java.util.function.Supplier;

/** A run of calls that is made again and again, each time on a new dairy, with something else between two calls. */
final class Story {
    private final Supplier<MilkRound> beginning;
    private final Function<MilkRound, String> ending;
    private final List<Call> calls = new ArrayList<>();

    Story(Supplier<MilkRound> beginning, Function<MilkRound, String> ending) {
        this.beginning = beginning;
        this.ending = ending;
    }

    Story then(String name, Object... arguments) {
        calls.add(new Call(name, arguments));
        return this;
    }

    int length() {
        return calls.size();
    }

    MilkRound tellUpTo(int end) {
        MilkRound dairy = beginning.get();
        tell(dairy, 0, end);
        return dairy;
    }

    /** The answers from a call on, and what is seen in the end. */
    String tellOn(MilkRound dairy, int from) {
        return tell(dairy, from, calls.size()) + ending.apply(dairy);
    }

    private String tell(MilkRound dairy, int from, int end) {
        StringBuilder answers = new StringBuilder();
        for (Call call : calls.subList(from, end)) {
            answers.append(call).append(' ').append(call.on(dairy)).append('\n');
        }
        return answers.toString();
    }
}
