/** A new object and how often it was asked: behind 512 calls the document promises nothing. */
final class Asked {
    private static final int MOST_CALLS = 512;

    private final MarksRegister register = new MarksRegister();
    private final Due due;
    private int calls = 0;

    Asked(Due due) {
        this.due = due;
    }

    long ask(Call call) {
        calls++;
        if (calls > MOST_CALLS) {
            due.yes("the test stays within 512 calls, at " + call, false);
        }
        return call.on(register);
    }

    Asked is(String sentence, String call, long answer) {
        due.is(sentence + ": " + call, ask(Call.of(call)), answer);
        return this;
    }
}
