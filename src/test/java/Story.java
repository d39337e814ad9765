import java.util.ArrayList;
import java.util.List;
import java.util.function.Consumer;

/** A run of calls that can be made on any number of new objects. It does not change: what is added makes a new one. */
final class Story {
    private record Step(Call call, boolean isTaken) { }

    private final List<Step> steps;

    Story() {
        this(List.of());
    }

    private Story(List<Step> steps) {
        this.steps = steps;
    }

    /** Calls that are taken, told in a row: "mark 0 1; letter 0 3". */
    Story and(String calls) {
        return with(calls, true);
    }

    /** Calls that are refused. */
    Story tries(String calls) {
        return with(calls, false);
    }

    private Story with(String calls, boolean isTaken) {
        List<Step> all = new ArrayList<>(steps);
        for (String call : calls.split(";")) {
            all.add(new Step(Call.of(call), isTaken));
        }
        return new Story(all);
    }

    /** A further mark with its word and picture. */
    Story mark(int kind, int owner, String word, int... codes) {
        int number = count("mark");
        StringBuilder b = new StringBuilder("mark " + kind + " " + owner);
        for (char c : word.toCharArray()) {
            b.append("; letter ").append(number).append(' ').append(c - 'a');
        }
        for (int c : codes) {
            b.append("; code ").append(number).append(' ').append(c);
        }
        return and(b.toString());
    }

    /** Marks of a KIND, of persons 0, 1, .., all of one letter. */
    static Story marks(int... kinds) {
        Story s = new Story();
        for (int i = 0; i < kinds.length; i++) {
            s = s.mark(kinds[i], i, "d");
        }
        return s;
    }

    /** Goods and an entry of one day. */
    Story enters(int mark, int goods, int country, int day) {
        return and("paper 0 " + mark + " " + goods + " " + day + "; paper 1 " + mark + " " + country + " " + day);
    }

    /** The same call so often that there are so many papers in all. */
    Story papersUpTo(int count, String call) {
        StringBuilder b = new StringBuilder(call);
        for (int i = count("paper") + 1; i < count; i++) {
            b.append(';').append(call);
        }
        return and(b.toString());
    }

    int size() {
        return steps.size();
    }

    void each(Consumer<Call> to) {
        steps.forEach(s -> to.accept(s.call()));
    }

    int count(String name) {
        return calls(name).size();
    }

    /** Its taken calls of a name. */
    List<Call> calls(String name) {
        return steps.stream().filter(s -> s.isTaken() && s.call().name().equals(name)).map(Step::call).toList();
    }

    /** A new object to which all of it has happened. */
    Asked told(Due due) {
        Asked asked = new Asked(due);
        for (Step step : steps) {
            long answer = asked.ask(step.call());
            boolean isRefused = answer == step.call().refusal();
            if (isRefused == step.isTaken()) {
                due.yes("told ahead: " + step.call() + " answered " + answer, false);
            }
        }
        return asked;
    }
}
