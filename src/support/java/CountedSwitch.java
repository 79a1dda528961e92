/** A switch under test that stops a test which asks beyond the calls that the document speaks of. */
final class CountedSwitch {
    static final int CALLS = 512;

    private final EvenSwitch x = new EvenSwitch();
    private int left = CALLS;

    int callsLeft() {
        return left;
    }

    private EvenSwitch called() {
        if (left == 0) {
            throw new IllegalStateException("a test asks beyond call " + CALLS + ": its answer is free");
        }
        left--;
        return x;
    }

    boolean setOrder(int output, int kind) {
        return called().setOrder(output, kind);
    }

    boolean setWeight(int output, int group, int weight) {
        return called().setWeight(output, group, weight);
    }

    boolean offer(int input, int output, int group, int tag) {
        return called().offer(input, output, group, tag);
    }

    int slot() {
        return called().slot();
    }

    int slots() {
        return called().slots();
    }

    boolean hasSent(int output) {
        return called().hasSent(output);
    }

    int sent(int output) {
        return called().sent(output);
    }

    int sentFrom(int output) {
        return called().sentFrom(output);
    }

    int waited(int output) {
        return called().waited(output);
    }

    int inside(int input) {
        return called().inside(input);
    }

    int waiting(int output) {
        return called().waiting(output);
    }

    int first(int output, int k) {
        return called().first(output, k);
    }

    long time(int output, int k) {
        return called().time(output, k);
    }

    int leaves(int tag) {
        return called().leaves(tag);
    }

    void reset() {
        called().reset();
    }

    /** The inputs of the cells in an output's order, from the first one on. */
    String inputsInOrder(int output) {
        StringBuilder text = new StringBuilder();
        int length = waiting(output);
        for (int k = 0; k < length; k++) {
            text.append(k == 0 ? "" : " ").append(first(output, k));
        }
        return text.toString();
    }

    /** The times of the cells in an output's order, from the first one on. */
    String timesInOrder(int output) {
        StringBuilder text = new StringBuilder();
        int length = waiting(output);
        for (int k = 0; k < length; k++) {
            text.append(k == 0 ? "" : " ").append(time(output, k));
        }
        return text.toString();
    }

    void offerFromAll(int output, int group, int tag) {
        for (int input = 0; input < 8; input++) {
            offer(input, output, group, tag);
        }
    }

    void slots(int count) {
        for (int n = 0; n < count; n++) {
            slot();
        }
    }
}
