import java.util.List;

/** Asks, of single sentences of the document, whether they hold: each call on an object of its own. */
final class Sentences {
    private static final int MIN = Integer.MIN_VALUE;
    private static final int MAX = Integer.MAX_VALUE;

    private final Due due = new Due();
    private Story probed;
    private List<List<Call>> probes;
    private long[][] answers;

    /** An object to which a story has happened. */
    Asked of(Story story) {
        return story.told(due);
    }

    void is(String sentence, Story story, String call, long answer) {
        of(story).is(sentence, call, answer);
    }

    /** The call is not refused. */
    void taken(String sentence, Story story, String call) {
        Call c = Call.of(call);
        long answer = of(story).ask(c);
        due.yes(sentence + ": " + call + " answered " + answer, answer != c.refusal());
    }

    /** The call is refused, and what others answer behind it has not changed. */
    void refused(String sentence, Story story, String... calls) {
        probe(story);
        for (String text : calls) {
            Call call = Call.of(text);
            for (int run = 0; run < probes.size(); run++) {
                Asked asked = of(story);
                due.is(sentence + ": " + text, asked.ask(call), call.refusal());
                compare(sentence + ": behind " + text, asked, run);
            }
        }
    }

    /** Where '%' stands, the lowest and the greatest number are taken, and none on either side. */
    void edges(String sentence, Story story, String call, int low, int high) {
        for (int n : new int[] {low, high}) {
            taken(sentence, story, put(call, n));
        }
        for (int n : new int[] {low - 1, high + 1, MIN, MAX}) {
            refused(sentence, story, put(call, n));
        }
    }

    private static String put(String call, int n) {
        return call.replace("%", Integer.toString(n));
    }

    private void compare(String sentence, Asked asked, int run) {
        List<Call> calls = probes.get(run);
        for (int i = 0; i < calls.size(); i++) {
            due.is(sentence + ": " + calls.get(i), asked.ask(calls.get(i)), answers[run][i]);
        }
    }

    private void probe(Story story) {
        if (probed == story) {
            return;
        }
        probed = story;
        probes = Probes.of(story);
        answers = new long[probes.size()][];
        for (int run = 0; run < answers.length; run++) {
            Asked asked = of(story);
            answers[run] = probes.get(run).stream().mapToLong(asked::ask).toArray();
        }
    }

    void end() {
        due.end();
    }
}
