import java.util.ArrayList;
import java.util.Arrays;
import java.util.List;
import java.util.function.Function;

/**
 * A call that is refused, and a question, leaves everything as it was: a switch that has seen it
 * answers whatever comes then like one that has not. What is inside is brought to light by runs of
 * calls that follow, each on switches of their own.
 */
public final class RefusalsTest extends SentenceTest {
    /** A call, and what it answers as text. */
    private static final class Call {
        final String text;
        final Function<CountedSwitch, Object> call;

        Call(String text, Function<CountedSwitch, Object> call) {
            this.text = text;
            this.call = call;
        }

        String on(CountedSwitch x) {
            return text + " answered " + call.apply(x) + "\n";
        }
    }

    /** Calls that bring to light what is inside, and the questions that are asked behind them. */
    private static final class Future {
        final List<Call> calls;
        final List<Call> questions;

        Future(List<Call> calls, List<Call> questions) {
            this.calls = calls;
            this.questions = questions;
        }
    }

    private static final int[] TAGS = {-1, 0, 1, 2, 3, 4, 5, 6, 7, 8, 2000};
    private static final List<Call> QUESTIONS = questions();
    private static final List<Future> FUTURES = futures();

    public static void main(String[] args) {
        holds("Promise 2", "An output's kind of order", RefusalsTest::acceptedOrderIsSeen);
        holds("Promise 2", "false if there are no such ones", RefusalsTest::noSuchOrder);
        holds("Promise 2", "or a cell for it waits or is offered", RefusalsTest::orderOfABusyOutput);
        holds("Promise 3", "The weight of a class at an output", RefusalsTest::acceptedWeightIsSeen);
        holds("Promise 3", "false if there are none such", RefusalsTest::noSuchWeight);
        holds("Promise 4", "A cell is offered to an input", RefusalsTest::acceptedOfferIsSeen);
        holds("Promise 4", "false if there is no such input, output or class", RefusalsTest::noSuchOffer);
        holds("Promise 4", "the input has one offered", RefusalsTest::oneOffered);
        holds("Promise 4", "or 64 cells", RefusalsTest::fullInput);
        String[] questions = {"int slots(", "boolean hasSent(", "int sent(", "int sentFrom(", "int waited(",
            "int inside(", "int waiting(", "int first(", "long time(", "int leaves("};
        for (int n = 0; n < questions.length; n++) {
            String name = questions[n].split(" ")[1];
            holds("Promise " + (6 + n), questions[n], () -> questionLeavesAll(name));
        }
        end();
    }

    private static Call setOrder(int output, int kind) {
        return new Call("setOrder(" + output + ", " + kind + ")", x -> x.setOrder(output, kind));
    }

    private static Call setWeight(int output, int group, int weight) {
        return new Call("setWeight(" + output + ", " + group + ", " + weight + ")",
            x -> x.setWeight(output, group, weight));
    }

    private static Call offer(int input, int output, int group, int tag) {
        return new Call("offer(" + input + ", " + output + ", " + group + ", " + tag + ")",
            x -> x.offer(input, output, group, tag));
    }

    private static Call slot() {
        return new Call("slot()", CountedSwitch::slot);
    }

    private static Call reset() {
        return new Call("reset()", x -> {
            x.reset();
            return "nothing";
        });
    }

    private static List<Call> questions() {
        List<Call> calls = new ArrayList<>();
        calls.add(new Call("slots()", CountedSwitch::slots));
        for (int port = -1; port <= 8; port++) {
            calls.addAll(questionsAbout(port));
        }
        calls.addAll(questionsAboutTags());
        return calls;
    }

    private static List<Call> questionsAboutTags() {
        List<Call> calls = new ArrayList<>();
        for (int tag : TAGS) {
            calls.add(new Call("leaves(" + tag + ")", x -> x.leaves(tag)));
        }
        return calls;
    }

    private static List<Call> questionsAbout(int port) {
        List<Call> calls = new ArrayList<>();
        String of = "(" + port + ")";
        calls.add(new Call("hasSent" + of, x -> x.hasSent(port)));
        calls.add(new Call("sent" + of, x -> x.sent(port)));
        calls.add(new Call("sentFrom" + of, x -> x.sentFrom(port)));
        calls.add(new Call("waited" + of, x -> x.waited(port)));
        calls.add(new Call("inside" + of, x -> x.inside(port)));
        calls.add(new Call("waiting" + of, x -> x.waiting(port)));
        for (int place = -1; place <= 8; place++) {
            int k = place;
            String ofBoth = "(" + port + ", " + k + ")";
            calls.add(new Call("first" + ofBoth, x -> x.first(port, k)));
            calls.add(new Call("time" + ofBoth, x -> x.time(port, k)));
        }
        return calls;
    }

    private static List<Future> futures() {
        List<Future> futures = new ArrayList<>();
        futures.add(new Future(List.of(), QUESTIONS));
        futures.add(new Future(List.of(slot()), QUESTIONS));
        futures.add(new Future(List.of(slot(), slot()), QUESTIONS));
        for (int output = 0; output < 8; output++) {
            List<Call> questions = questionsAbout(output);
            questions.addAll(questionsAboutTags());
            // Falling classes tell a PRIORITY from a LINE.
            futures.add(new Future(offersOf(output, 7, 6, 5, 4, 3, 2, 1, 0), questions));
            for (int group = 0; group < 8; group += 2) {
                futures.add(new Future(twoClassesBehind(output, group, group + 1, slot()), questions));
                // Only a CLOCK shows the weights.
                futures.add(new Future(twoClassesBehind(output, group, group + 1, reset(), setOrder(output, 2)), questions));
            }
        }
        return futures;
    }

    private static List<Call> twoClassesBehind(int output, int group, int other, Call... before) {
        List<Call> calls = new ArrayList<>(Arrays.asList(before));
        calls.addAll(offersOf(output, group, other, group, other, group, other, group, other));
        return calls;
    }

    /**
     * Each input is offered one of these classes, and a slot goes by. The tags are the past's ones
     * again, so that it is seen which cells were accepted first.
     */
    private static List<Call> offersOf(int output, int... groups) {
        List<Call> calls = new ArrayList<>();
        for (int input = 0; input < groups.length; input++) {
            calls.add(offer(input, output, groups[input], input));
        }
        calls.add(slot());
        return calls;
    }

    private static String replay(List<Call> calls, CountedSwitch x) {
        StringBuilder told = new StringBuilder();
        for (Call call : calls) {
            told.append(call.on(x));
        }
        return told.toString();
    }

    private static String view(List<Call> past) {
        return view(past, CountedSwitch.CALLS);
    }

    /** All answers of switches with this past in each of the futures, at most so many of each switch. */
    private static String view(List<Call> past, int questionsEach) {
        StringBuilder told = new StringBuilder();
        for (Future future : FUTURES) {
            CountedSwitch x = new CountedSwitch();
            replay(past, x);
            told.append(replay(future.calls, x));
            int asked = 0;
            for (Call question : future.questions) {
                if (x.callsLeft() == 0 || asked == questionsEach) {
                    x = new CountedSwitch();
                    replay(past, x);
                    replay(future.calls, x);
                    asked = 0;
                }
                told.append(question.on(x));
                asked++;
            }
        }
        return told.toString();
    }

    private static List<Call> with(List<Call> past, Call... more) {
        List<Call> calls = new ArrayList<>(past);
        calls.addAll(Arrays.asList(more));
        return calls;
    }

    private static void refused(String state, List<Call> past, Call... calls) {
        String asItWas = view(past);
        for (Call call : calls) {
            CountedSwitch x = new CountedSwitch();
            replay(past, x);
            due(state + ": " + call.text, call.call.apply(x), false);
            due(state + ": what is seen behind " + call.text, firstDifference(asItWas, view(with(past, call))), "");
        }
    }

    private static void seen(String state, List<Call> past, Call call) {
        CountedSwitch x = new CountedSwitch();
        replay(past, x);
        due(state + ": " + call.text, call.call.apply(x), true);
        due(state + ": " + call.text + " is seen", view(past).equals(view(with(past, call))), false);
    }

    private static String firstDifference(String one, String other) {
        String[] lines = one.split("\n");
        String[] others = other.split("\n");
        for (int n = 0; n < lines.length && n < others.length; n++) {
            if (!lines[n].equals(others[n])) {
                return others[n] + ", before it " + lines[n];
            }
        }
        return "";
    }

    /** Orders 0 LINE, 1 PRIORITY, 2 CLOCK, 3 CLOCK; cells wait at 0 .. 2 and are offered for 0, 2, 4. */
    private static List<Call> busy() {
        List<Call> past = new ArrayList<>();
        past.add(setOrder(1, 1));
        past.add(setOrder(2, 2));
        past.add(setOrder(3, 2));
        past.add(setOrder(6, 1));
        past.add(setWeight(2, 0, 255));
        past.add(setWeight(2, 1, 100));
        past.add(setWeight(3, 5, 7));
        past.add(setWeight(0, 0, 9));
        past.add(slot());
        for (int output = 0; output < 4; output++) {
            for (int input = output == 3 ? 5 : 0; input < 6; input++) {
                past.add(offer(input, output, (input + output) % 3, input));
            }
            past.add(slot());
        }
        past.add(offer(7, 0, 4, 6));
        past.add(offer(2, 2, 0, 7));
        past.add(offer(1, 4, 1, 8));
        return past;
    }

    /** Input 1 has 64 cells that wait, 32 each for outputs 0 and 2. */
    private static List<Call> full() {
        List<Call> past = new ArrayList<>();
        past.add(setOrder(0, 1));
        past.add(setOrder(2, 1));
        for (int n = 0; n < 64; n++) {
            past.add(offer(0, 0, 0, 1));
            past.add(offer(2, 2, 0, 2));
            past.add(offer(1, n % 2 == 0 ? 0 : 2, 1, 3));
            past.add(slot());
        }
        return past;
    }

    private static void acceptedOrderIsSeen() {
        for (int output = 0; output < 8; output++) {
            seen("new", List.of(), setOrder(output, 1));
            seen("new", List.of(), setOrder(output, 2));
        }
        seen("busy", busy(), setOrder(3, 0));
        seen("busy", busy(), setOrder(5, 1));
    }

    private static void noSuchOrder() {
        List<Call> calls = new ArrayList<>();
        for (int none : NO_PORTS) {
            for (int kind = -1; kind <= 3; kind++) {
                calls.add(setOrder(none, kind));
            }
        }
        int[] noKinds = {-1, 3, Integer.MIN_VALUE, Integer.MAX_VALUE};
        for (int none : noKinds) {
            for (int output = 0; output < 8; output++) {
                calls.add(setOrder(output, none));
            }
        }
        refused("new", List.of(), calls.toArray(new Call[0]));
        refused("busy", busy(), calls.toArray(new Call[0]));
    }

    private static void orderOfABusyOutput() {
        for (int kind = 0; kind <= 2; kind++) {
            for (int asked = 0; asked <= 2; asked++) {
                List<Call> past = List.of(setOrder(5, kind), offer(3, 5, 1, 1), offer(4, 5, 0, 2));
                refused("two are offered", past, setOrder(5, asked));
                refused("one waits", with(past, slot()), setOrder(5, asked));
                refused("one waits, one is offered", with(past, slot(), offer(0, 5, 0, 3)), setOrder(5, asked));
            }
        }
        for (int output : new int[] {0, 1, 2, 4}) {
            refused("busy", busy(), setOrder(output, 0), setOrder(output, 1), setOrder(output, 2));
        }
    }

    private static void acceptedWeightIsSeen() {
        for (int output = 0; output < 8; output++) {
            for (int group = 0; group < 8; group++) {
                seen("new", List.of(), setWeight(output, group, 2));
                seen("busy", busy(), setWeight(output, group, 254));
            }
        }
    }

    private static void noSuchWeight() {
        List<Call> calls = new ArrayList<>();
        for (int none : NO_PORTS) {
            calls.add(setWeight(none, 0, 1));
            calls.add(setWeight(none, 7, 255));
            calls.add(setWeight(0, none, 1));
            calls.add(setWeight(7, none, 255));
            calls.add(setWeight(none, none, 2));
        }
        int[] noWeights = {0, -1, 256, 257, Integer.MIN_VALUE, Integer.MAX_VALUE};
        for (int none : noWeights) {
            for (int group = 0; group < 8; group++) {
                calls.add(setWeight(group, group, none));
                calls.add(setWeight(2, group, none));
            }
        }
        refused("new", List.of(), calls.toArray(new Call[0]));
        refused("busy", busy(), calls.toArray(new Call[0]));
    }

    private static void acceptedOfferIsSeen() {
        for (int port = 0; port < 8; port++) {
            seen("new", List.of(), offer(port, 7 - port, port, 2000));
        }
        seen("busy", busy(), offer(0, 7, 7, 2000));
        List<Call> past = List.of(offer(1, 0, 0, 1));
        String one = view(with(past, offer(2, 0, 0, 2)));
        due("another input", one.equals(view(with(past, offer(3, 0, 0, 2)))), false);
        due("another output", one.equals(view(with(past, offer(2, 1, 0, 2)))), false);
        due("another tag", one.equals(view(with(past, offer(2, 0, 0, 3)))), false);
        List<Call> byClass = List.of(setOrder(0, 1), offer(1, 0, 0, 1));
        due("another class", view(with(byClass, offer(2, 0, 1, 2))).equals(view(with(byClass, offer(2, 0, 6, 2)))),
            false);
    }

    private static void noSuchOffer() {
        List<Call> calls = new ArrayList<>();
        for (int none : NO_PORTS) {
            for (int port = 0; port < 8; port++) {
                calls.add(offer(none, port, port, 2000));
                calls.add(offer(port, none, port, 2000));
                calls.add(offer(port, port, none, 2000));
            }
            calls.add(offer(none, none, none, 2000));
        }
        refused("new", List.of(), calls.toArray(new Call[0]));
        refused("busy", busy(), calls.toArray(new Call[0]));
    }

    private static void oneOffered() {
        for (int input = 0; input < 8; input++) {
            List<Call> past = List.of(offer(input, 3, 4, 1), offer((input + 1) % 8, 3, 0, 2));
            refused("one is offered", past, offer(input, 3, 4, 1), offer(input, 3, 0, 2000), offer(input, 6, 4, 2000));
        }
        for (int output = 0; output < 8; output++) {
            refused("busy", busy(), offer(7, output, 0, 2000), offer(2, output, 7, 2000), offer(1, output, 1, 2000));
        }
    }

    private static void fullInput() {
        for (int output = 0; output < 8; output++) {
            refused("64 wait", full(), offer(1, output, 0, 2000), offer(1, output, 7, 3));
        }
        List<Call> past = with(full(), slot(), offer(1, 0, 1, 4), slot(), offer(1, 5, 0, 5));
        refused("one is offered", past, offer(1, 0, 0, 2000), offer(1, 5, 0, 5));
        List<Call> lessTwo = with(full(), slot());
        seen("62 wait", lessTwo, offer(1, 0, 0, 2000));
    }

    private static void questionLeavesAll(String name) {
        List<Call> asked = new ArrayList<>();
        for (Call question : QUESTIONS) {
            if (question.text.startsWith(name)) {
                asked.add(question);
            }
        }
        due("questions", asked.isEmpty(), false);
        List<Call> allOffered = with(busy(), slot());
        for (int input = 0; input < 8; input++) {
            allOffered.add(offer(input, input % 3, input, input));
        }
        List<List<Call>> pasts = List.of(List.of(), busy(), with(busy(), slot()), allOffered, full());
        for (List<Call> past : pasts) {
            // One question to each switch: a question that changed something must not hide itself.
            String told = view(with(past, asked.toArray(new Call[0])), 1);
            due("what is seen behind " + name + "..)", firstDifference(view(past, 1), told), "");
        }
    }
}
