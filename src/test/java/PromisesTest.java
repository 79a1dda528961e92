/** For each promise of the document: ordinary inputs, the edges that it names, and wrong inputs. */
public final class PromisesTest {
    private static final int[] NO_PORTS = {-1, 8, 9, 64, Integer.MIN_VALUE, Integer.MAX_VALUE};

    private static int wrong = 0;
    private static int promise = 0;

    public static void main(String[] args) {
        newObject();
        setOrder();
        setOrderRefusals();
        setWeight();
        setWeightRefusals();
        offer();
        offerRefusals();
        offerLimit();
        slotLine();
        slotPriority();
        slotClock();
        slotClockLastTimes();
        slots();
        hasSent();
        sent();
        sentFrom();
        waited();
        inside();
        waiting();
        first();
        time();
        leaves();
        leavesFirstAccepted();
        reset();
        resetKeeps();
        System.out.println(wrong == 0 ? "all answers are as due" : wrong + " answers are not as due");
        if (wrong != 0) {
            System.exit(1);
        }
    }

    private static void newObject() {
        promise = 1;
        CountedSwitch x = new CountedSwitch();
        due("NONE", EvenSwitch.NONE, -1);
        due("slots", x.slots(), 0);
        for (int port = 0; port < 8; port++) {
            due("inside", x.inside(port), 0);
            due("waiting", x.waiting(port), 0);
            due("hasSent", x.hasSent(port), false);
            due("sent", x.sent(port), 0);
            due("sentFrom", x.sentFrom(port), -1);
            due("waited", x.waited(port), -1);
            due("first", x.first(port, 0), -1);
            due("time", x.time(port, 0), -1);
        }
        due("leaves", x.leaves(0), -1);
        due("slot of an empty switch", x.slot(), 0);
        for (int output = 0; output < 8; output++) {
            CountedSwitch y = new CountedSwitch();
            for (int input = 0; input < 8; input++) {
                y.offer(input, output, 7 - input, 0);
            }
            y.slot();
            due("order is LINE, not PRIORITY", inputsInOrder(y, output), "1234567");
            due("order is LINE, not CLOCK", timesInOrder(y, output), "0 0 0 0 0 0 0 ");
            for (int group = 0; group < 8; group++) {
                due("weight is 1 at first", firstTime(output, group), 65536);
            }
        }
    }

    private static long firstTime(int output, int group) {
        CountedSwitch x = new CountedSwitch();
        x.setOrder(output, 2);
        x.setWeight(output, (group + 1) % 8, 255);
        x.offer(0, output, (group + 1) % 8, 0);
        x.offer(1, output, group, 0);
        x.slot();
        return x.time(output, 0);
    }

    private static void setOrder() {
        promise = 2;
        for (int output = 0; output < 8; output++) {
            due("PRIORITY", orderAfter(output, 1), "654321");
            due("CLOCK", orderAfter(output, 2), "123456");
            due("LINE", orderAfter(output, 0), "123456");
        }
        CountedSwitch x = new CountedSwitch();
        due("one output alone", x.setOrder(3, 1), true);
        offerAll(x, 4, 7, -1);
        x.slot();
        due("the others stay LINE", inputsInOrder(x, 4), "1234567");
        due("another output's cells do not hinder", x.setOrder(5, 2), true);
        due("its own do", x.setOrder(4, 2), false);
    }

    private static String orderAfter(int output, int kind) {
        CountedSwitch x = new CountedSwitch();
        due("setOrder", x.setOrder(output, 2 - kind), true);
        due("setOrder again", x.setOrder(output, kind), true);
        // A cell of class 0 leaves at once under each order and leaves those of inputs 1 .. 6.
        for (int group = 0; group < 8; group++) {
            x.setWeight(output, group, group == 0 ? 255 : 1);
        }
        x.offer(0, output, 0, 0);
        for (int input = 1; input < 7; input++) {
            x.offer(input, output, 7 - input, 0);
        }
        x.slot();
        due("class 0 leaves", x.sentFrom(output), 0);
        return inputsInOrder(x, output);
    }

    private static void setOrderRefusals() {
        promise = 2;
        CountedSwitch x = new CountedSwitch();
        for (int none : NO_PORTS) {
            due("no such output", x.setOrder(none, 0), false);
        }
        int[] noKinds = {-1, 3, 4, Integer.MIN_VALUE, Integer.MAX_VALUE};
        for (int none : noKinds) {
            due("no such kind", x.setOrder(0, none), false);
        }
        x.offer(7, 0, 5, 1);
        due("offered", x.setOrder(0, 1), false);
        due("offered, same kind", x.setOrder(0, 0), false);
        x.offer(6, 0, 3, 2);
        x.slot();
        due("the refused kind was not taken", x.sentFrom(0), 6);
        due("waits", x.setOrder(0, 1), false);
        x.slot();
        due("sent, none waits", x.setOrder(0, 1), true);
        x.offer(0, 0, 5, 1);
        x.reset();
        due("behind a reset", x.setOrder(0, 2), true);
    }

    private static void setWeight() {
        promise = 3;
        for (int weight = 1; weight <= 255; weight++) {
            CountedSwitch x = new CountedSwitch();
            due("setOrder", x.setOrder(6, 2), true);
            due("setWeight", x.setWeight(6, 7, weight), true);
            x.offer(0, 6, 7, 0);
            x.offer(1, 6, 7, 0);
            x.slot();
            long step = 65536 / weight + (65536 % weight == 0 ? 0 : 1);
            due("time at a weight", x.time(6, 0), 2 * step);
        }
        CountedSwitch x = new CountedSwitch();
        x.setOrder(0, 2);
        x.setWeight(0, 0, 2);
        x.offer(0, 0, 0, 0);
        x.offer(1, 0, 0, 0);
        due("before offered ones come", x.setWeight(0, 0, 4), true);
        x.slot();
        due("offered ones get the new weight", x.time(0, 0), 32768);
        due("while one waits", x.setWeight(0, 0, 8), true);
        due("one that has come keeps its time", x.time(0, 0), 32768);
        x.offer(0, 0, 0, 0);
        x.slot();
        due("the next comes with the new weight", x.time(0, 0), 32768 + 8192);
        due("at a LINE output", x.setWeight(1, 3, 16), true);
        x.setOrder(1, 2);
        x.offer(2, 1, 3, 0);
        x.offer(3, 1, 3, 0);
        x.slot();
        due("is kept for its CLOCK", x.time(1, 0), 512 + 2 * 4096);
    }

    private static void setWeightRefusals() {
        promise = 3;
        CountedSwitch x = new CountedSwitch();
        x.setOrder(0, 2);
        for (int none : NO_PORTS) {
            due("no such output", x.setWeight(none, 0, 9), false);
            due("no such class", x.setWeight(0, none, 9), false);
        }
        int[] noWeights = {0, -1, 256, Integer.MIN_VALUE, Integer.MAX_VALUE};
        for (int none : noWeights) {
            due("no such weight", x.setWeight(0, 0, none), false);
        }
        x.offer(0, 0, 0, 0);
        x.offer(1, 0, 0, 0);
        x.slot();
        due("refused weights change nothing", x.time(0, 0), 131072);
    }

    private static void offer() {
        promise = 4;
        for (int input = 0; input < 8; input++) {
            for (int output = 0; output < 8; output++) {
                CountedSwitch x = new CountedSwitch();
                int tag = 1000 * input - output;
                due("offer", x.offer(input, output, input, tag), true);
                due("offered is no coming", x.waiting(output), 0);
                due("offered is inside", x.inside(input), 1);
                due("slot", x.slot(), 1);
                due("sent", x.sent(output), tag);
                due("sentFrom", x.sentFrom(output), input);
                due("after the slot", x.offer(input, output, 7, tag), true);
            }
        }
        int[] tags = {0, -1, Integer.MIN_VALUE, Integer.MAX_VALUE};
        for (int tag : tags) {
            CountedSwitch x = new CountedSwitch();
            due("each tag is taken", x.offer(0, 0, 0, tag), true);
            x.slot();
            due("each tag is sent", x.sent(0), tag);
        }
    }

    private static void offerRefusals() {
        promise = 4;
        CountedSwitch x = new CountedSwitch();
        for (int none : NO_PORTS) {
            due("no such input", x.offer(none, 0, 0, 1), false);
            due("no such output", x.offer(0, none, 0, 1), false);
            due("no such class", x.offer(0, 0, none, 1), false);
        }
        due("refused ones are not inside", x.inside(0), 0);
        due("offer", x.offer(0, 0, 0, 2), true);
        due("one offered", x.offer(0, 1, 1, 3), false);
        due("inside", x.inside(0), 1);
        due("slot", x.slot(), 1);
        due("the first one came", x.sent(0), 2);
        due("the refused one did not", x.hasSent(1), false);
    }

    private static void offerLimit() {
        promise = 4;
        CountedSwitch x = new CountedSwitch();
        x.setOrder(0, 1);
        for (int n = 0; n < 64; n++) {
            due("inside below the limit", x.inside(3), n);
            due("offer below the limit", x.offer(3, 0, 7, n), true);
            x.offer(4, 0, 0, -1);
            x.slot();
            due("the lesser class goes", x.sent(0), -1);
        }
        due("inside", x.inside(3), 64);
        due("waiting", x.waiting(0), 64);
        due("64 cells", x.offer(3, 0, 7, 64), false);
        due("64 cells, another output", x.offer(3, 1, 0, 64), false);
        due("another input", x.offer(5, 0, 7, 64), true);
        due("the last of 64 leaves", x.leaves(63), 63);
        x.slot();
        due("one has left", x.inside(3), 63);
        due("room again", x.offer(3, 0, 7, 65), true);
        due("the offered one counts", x.inside(3), 64);
        due("one offered", x.offer(3, 0, 7, 66), false);
    }

    private static void slotLine() {
        promise = 5;
        CountedSwitch x = new CountedSwitch();
        due("no cells", x.slot(), 0);
        for (int port = 7; port >= 0; port--) {
            x.offer(port, 7 - port, 0, port);
        }
        due("all outputs send", x.slot(), 8);
        due("no more", x.slot(), 0);
        // Accepted from the highest input down: they still come by their inputs' numbers.
        for (int input = 7; input >= 0; input--) {
            x.offer(input, 2, input, input);
        }
        due("one output sends one", x.slot(), 1);
        due("the lowest input first", x.sentFrom(2), 0);
        due("by the inputs' numbers", inputsInOrder(x, 2), "1234567");
        x.offer(0, 2, 0, 8);
        due("slot", x.slot(), 1);
        due("behind all", inputsInOrder(x, 2), "2345670");
    }

    private static void slotPriority() {
        promise = 5;
        CountedSwitch x = new CountedSwitch();
        x.setOrder(1, 1);
        int[] groups = {4, 2, 7, 2, 0, 7, 4, 0};
        for (int input = 0; input < 8; input++) {
            x.offer(input, 1, groups[input], input);
        }
        due("slot", x.slot(), 1);
        due("the least class", x.sentFrom(1), 4);
        due("by class, then as they came", inputsInOrder(x, 1), "7130625");
        x.offer(4, 1, 2, 8);
        x.slot();
        due("sent", x.sentFrom(1), 7);
        due("behind its class, before greater ones", inputsInOrder(x, 1), "1340625");
        x.offer(7, 1, 0, 9);
        x.slot();
        due("one that comes may leave at once", x.sentFrom(1), 7);
        due("the others stay", inputsInOrder(x, 1), "1340625");
    }

    private static void slotClock() {
        promise = 5;
        CountedSwitch x = new CountedSwitch();
        x.setOrder(4, 2);
        x.setWeight(4, 0, 64);
        x.setWeight(4, 1, 128);
        x.setWeight(4, 2, 64);
        x.offer(0, 4, 0, 0);
        x.offer(1, 4, 1, 1);
        x.offer(2, 4, 0, 2);
        x.offer(3, 4, 1, 3);
        x.offer(5, 4, 2, 5);
        x.slot();
        // Times: 0: 1024, 1: 512, 2: 2048, 3: 1024, 5: 1024.
        due("the least time", x.sentFrom(4), 1);
        due("equal times as they came", inputsInOrder(x, 4), "0352");
        due("times", timesInOrder(x, 4), "1024 1024 1024 2048 ");
        x.offer(6, 4, 1, 6);
        x.slot();
        due("sent", x.sentFrom(4), 0);
        due("from the last time on", timesInOrder(x, 4), "1024 1024 1536 2048 ");
        due("between", inputsInOrder(x, 4), "3562");
    }

    private static void slotClockLastTimes() {
        promise = 5;
        CountedSwitch x = new CountedSwitch();
        x.setOrder(0, 2);
        x.setWeight(0, 1, 255);
        x.offer(0, 0, 0, 0);
        x.slot();
        x.offer(0, 0, 0, 0);
        x.offer(1, 0, 1, 0);
        x.slot();
        due("last times went when none waited", x.time(0, 0), 256 + 65536);
        due("class 1", x.sentFrom(0), 1);
        x.offer(2, 0, 0, 0);
        x.offer(1, 0, 1, 0);
        x.slot();
        due("class 1 again", x.sentFrom(0), 1);
        due("last times stay while one waits", timesInOrder(x, 0), "65792 131328 ");
        for (int n = 0; n < 10; n++) {
            x.slot();
        }
        x.offer(0, 0, 1, 0);
        x.offer(1, 0, 1, 0);
        x.slot();
        due("the slot's number counts", x.time(0, 0), 13 * 256 + 2 * 258);
    }

    private static void slots() {
        promise = 6;
        CountedSwitch x = new CountedSwitch();
        for (int n = 0; n < 200; n++) {
            due("slots", x.slots(), n);
            if (n % 3 == 0) {
                x.offer(n % 8, 0, 0, 0);
            }
            x.slot();
        }
        x.offer(0, 0, 0, 0);
        due("an offer is no slot", x.slots(), 200);
    }

    private static void hasSent() {
        promise = 7;
        CountedSwitch x = new CountedSwitch();
        x.offer(0, 5, 0, 0);
        due("offered only", x.hasSent(5), false);
        x.slot();
        for (int output = 0; output < 8; output++) {
            due("hasSent", x.hasSent(output), output == 5);
        }
        for (int none : NO_PORTS) {
            due("no such output", x.hasSent(none), false);
        }
        x.offer(0, 4, 0, 0);
        due("an offer changes nothing", x.hasSent(5), true);
        x.slot();
        due("the latest slot alone", x.hasSent(5), false);
        due("the other output", x.hasSent(4), true);
    }

    private static void sent() {
        promise = 8;
        CountedSwitch x = new CountedSwitch();
        x.offer(2, 5, 0, -77);
        x.offer(3, 5, 0, 78);
        due("offered only", x.sent(5), 0);
        x.slot();
        due("sent", x.sent(5), -77);
        due("another output", x.sent(4), 0);
        for (int none : NO_PORTS) {
            due("no such output", x.sent(none), 0);
        }
        x.slot();
        due("the next one", x.sent(5), 78);
        x.slot();
        due("none in the latest slot", x.sent(5), 0);
    }

    private static void sentFrom() {
        promise = 9;
        CountedSwitch x = new CountedSwitch();
        x.offer(7, 7, 0, 1);
        x.offer(0, 7, 0, 2);
        due("offered only", x.sentFrom(7), -1);
        x.slot();
        due("sentFrom", x.sentFrom(7), 0);
        due("another output", x.sentFrom(0), -1);
        for (int none : NO_PORTS) {
            due("no such output", x.sentFrom(none), -1);
        }
        x.slot();
        due("the next one", x.sentFrom(7), 7);
        x.slot();
        due("none in the latest slot", x.sentFrom(7), -1);
    }

    private static void waited() {
        promise = 10;
        CountedSwitch x = new CountedSwitch();
        x.slot();
        x.slot();
        offerAll(x, 3, 0, 0);
        due("offered only", x.waited(3), -1);
        for (int n = 0; n < 8; n++) {
            x.slot();
            due("waited", x.waited(3), n);
            due("another output", x.waited(2), -1);
        }
        for (int none : NO_PORTS) {
            due("no such output", x.waited(none), -1);
        }
        x.offer(0, 3, 0, 0);
        due("an offer changes nothing", x.waited(3), 7);
        x.slot();
        due("not from the offer on", x.waited(3), 0);
        x.slot();
        due("none in the latest slot", x.waited(3), -1);
    }

    private static void inside() {
        promise = 11;
        CountedSwitch x = new CountedSwitch();
        for (int none : NO_PORTS) {
            due("no such input", x.inside(none), -1);
        }
        offerAll(x, 0, 0, 0);
        for (int input = 0; input < 8; input++) {
            due("offered ones count", x.inside(input), 1);
        }
        x.slot();
        for (int input = 0; input < 8; input++) {
            due("sent ones do not", x.inside(input), input == 0 ? 0 : 1);
        }
        x.offer(5, 1, 0, 0);
        due("one waits, one is offered", x.inside(5), 2);
        x.slot();
        due("to whichever output it goes", x.inside(5), 1);
    }

    private static void waiting() {
        promise = 12;
        CountedSwitch x = new CountedSwitch();
        for (int none : NO_PORTS) {
            due("no such output", x.waiting(none), -1);
        }
        offerAll(x, 6, 0, 0);
        due("offered ones do not count", x.waiting(6), 0);
        for (int n = 7; n >= 0; n--) {
            x.slot();
            due("waiting", x.waiting(6), n);
            due("another output", x.waiting(5), 0);
        }
        x.slot();
        due("none", x.waiting(6), 0);
    }

    private static void first() {
        promise = 13;
        CountedSwitch x = new CountedSwitch();
        for (int kind = 0; kind < 3; kind++) {
            x.setOrder(kind, kind);
        }
        x.offer(0, 0, 0, 0);
        due("offered only", x.first(0, 0), -1);
        x.offer(1, 0, 0, 0);
        x.offer(2, 0, 0, 0);
        x.offer(3, 1, 0, 0);
        x.offer(4, 1, 1, 0);
        x.offer(5, 1, 0, 0);
        x.slot();
        due("first of a LINE", x.first(0, 0), 1);
        due("second of a LINE", x.first(0, 1), 2);
        due("none behind them", x.first(0, 2), -1);
        due("first by PRIORITY", x.first(1, 0), 5);
        due("second by PRIORITY", x.first(1, 1), 4);
        due("an empty output", x.first(2, 0), -1);
        due("k below 0", x.first(0, -1), -1);
        due("the least k", x.first(0, Integer.MIN_VALUE), -1);
        due("the greatest k", x.first(0, Integer.MAX_VALUE), -1);
        for (int none : NO_PORTS) {
            due("no such output", x.first(none, 0), -1);
        }
    }

    private static void time() {
        promise = 14;
        CountedSwitch x = new CountedSwitch();
        x.setOrder(1, 1);
        x.setOrder(2, 2);
        x.slot();
        x.offer(0, 0, 0, 0);
        x.offer(1, 0, 0, 0);
        x.offer(2, 1, 0, 0);
        x.offer(3, 1, 0, 0);
        x.offer(4, 2, 0, 0);
        x.offer(5, 2, 0, 0);
        x.offer(6, 2, 0, 0);
        due("offered only", x.time(2, 0), -1);
        x.slot();
        due("LINE", x.time(0, 0), 0);
        due("PRIORITY", x.time(1, 0), 0);
        due("CLOCK", x.time(2, 0), 256 + 2 * 65536);
        due("CLOCK, second", x.time(2, 1), 256 + 3 * 65536);
        due("LINE, no such cell", x.time(0, 1), -1);
        due("PRIORITY, no such cell", x.time(1, 1), -1);
        due("CLOCK, no such cell", x.time(2, 2), -1);
        due("k below 0", x.time(2, -1), -1);
        due("the least k", x.time(2, Integer.MIN_VALUE), -1);
        due("the greatest k", x.time(2, Integer.MAX_VALUE), -1);
        for (int none : NO_PORTS) {
            due("no such output", x.time(none, 0), -1);
        }
    }

    private static void leaves() {
        promise = 15;
        CountedSwitch x = new CountedSwitch();
        x.setOrder(0, 1);
        due("none", x.leaves(0), -1);
        for (int input = 0; input < 8; input++) {
            x.offer(input, 0, 7 - input, 100 + input);
        }
        due("offered ones not", x.leaves(100), -1);
        x.slot();
        due("sent ones not", x.leaves(107), -1);
        for (int input = 0; input < 7; input++) {
            due("leaves", x.leaves(100 + input), 6 - input);
        }
        due("no such tag", x.leaves(99), -1);
        x.offer(7, 0, 0, 108);
        due("offered ones do not come", x.leaves(106), 0);
        due("the offered one itself", x.leaves(108), -1);
        x.slot();
        due("it came before the others", x.leaves(106), 0);
        x.slot();
        due("the next one", x.leaves(106), -1);
        due("one nearer", x.leaves(105), 0);
    }

    private static void leavesFirstAccepted() {
        promise = 15;
        CountedSwitch x = new CountedSwitch();
        x.setOrder(0, 1);
        x.offer(7, 0, 7, 5);
        x.offer(6, 1, 0, 5);
        x.offer(1, 0, 3, 5);
        x.offer(0, 0, 0, 6);
        x.offer(2, 1, 0, 6);
        x.slot();
        // At output 0 input 1's cell waits before input 7's, which was accepted first of all.
        due("the first accepted, not the first to leave", x.leaves(5), 1);
        x.offer(0, 0, 5, 5);
        x.slot();
        due("the cell between has moved it back", x.leaves(5), 1);
        x.slot();
        due("it is next", x.leaves(5), 0);
        x.slot();
        due("all have left", x.leaves(5), -1);

        CountedSwitch y = new CountedSwitch();
        y.offer(0, 3, 0, 1);
        y.offer(1, 3, 0, 1);
        y.offer(2, 3, 0, 9);
        y.offer(4, 2, 0, 1);
        y.offer(5, 2, 0, 1);
        y.offer(3, 2, 0, 1);
        y.slot();
        due("over all outputs", y.leaves(1), 0);
        y.offer(0, 2, 0, 8);
        y.slot();
        due("the accepted before it has left", y.leaves(1), 0);
        due("tag 9", y.leaves(9), 0);
        due("tag 8", y.leaves(8), 1);
    }

    private static void reset() {
        promise = 16;
        CountedSwitch x = new CountedSwitch();
        offerAll(x, 0, 0, 3);
        x.slot();
        offerAll(x, 1, 0, 3);
        x.reset();
        for (int port = 0; port < 8; port++) {
            due("inside", x.inside(port), 0);
            due("waiting", x.waiting(port), 0);
            due("hasSent", x.hasSent(port), false);
            due("sent", x.sent(port), 0);
            due("sentFrom", x.sentFrom(port), -1);
            due("waited", x.waited(port), -1);
            due("first", x.first(port, 0), -1);
            due("time", x.time(port, 0), -1);
        }
        due("leaves", x.leaves(3), -1);
        due("the number of the slot stays", x.slots(), 1);
        due("no cell is left", x.slot(), 0);
        due("the next slot", x.slots(), 2);
        due("offers are free again", x.offer(0, 0, 0, 4), true);
    }

    private static void resetKeeps() {
        promise = 16;
        CountedSwitch x = new CountedSwitch();
        x.setOrder(0, 1);
        x.setOrder(1, 2);
        x.setWeight(1, 0, 16);
        x.slot();
        for (int input = 0; input < 8; input++) {
            x.offer(input, 1, 0, 0);
        }
        x.slot();
        x.reset();
        x.offer(0, 0, 3, 0);
        x.offer(1, 0, 2, 0);
        x.offer(2, 1, 0, 0);
        x.offer(3, 1, 0, 0);
        x.slot();
        due("orders stay", x.sentFrom(0), 1);
        due("weights and the slot's number stay, last times go", x.time(1, 0), 512 + 2 * 4096);
        for (int n = 0; n < 64; n++) {
            x.offer(5, 2, 0, n);
            x.offer(4, 2, 0, n);
            x.slot();
        }
        x.reset();
        due("an input is empty again", x.inside(5), 0);
        due("the order is empty again", x.setOrder(2, 1), true);
    }

    private static void offerAll(CountedSwitch x, int output, int group, int tag) {
        for (int input = 0; input < 8; input++) {
            due("offer", x.offer(input, output, group, tag), true);
        }
    }

    private static String inputsInOrder(CountedSwitch x, int output) {
        StringBuilder text = new StringBuilder();
        for (int k = 0; k < x.waiting(output); k++) {
            text.append(x.first(output, k));
        }
        return text.toString();
    }

    private static String timesInOrder(CountedSwitch x, int output) {
        StringBuilder text = new StringBuilder();
        for (int k = 0; k < x.waiting(output); k++) {
            text.append(x.time(output, k)).append(' ');
        }
        return text.toString();
    }

    private static void due(String what, long got, long want) {
        due(what, Long.toString(got), Long.toString(want));
    }

    private static void due(String what, boolean got, boolean want) {
        due(what, Boolean.toString(got), Boolean.toString(want));
    }

    private static void due(String what, String got, String want) {
        if (!got.equals(want)) {
            wrong++;
            System.out.println("promise " + promise + ": " + what + ": answered " + got + ", due is " + want);
        }
    }
}
