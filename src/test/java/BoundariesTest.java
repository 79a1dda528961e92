/** The sentences of promises 1 to 16 that name a boundary case. */
public final class BoundariesTest extends SentenceTest {
    private static final int[] FAR = {Integer.MIN_VALUE, Integer.MIN_VALUE + 1, -65536, -256, 256, 65536,
        Integer.MAX_VALUE - 1, Integer.MAX_VALUE};

    public static void main(String[] args) {
        holds("Promise 1", "No cells", BoundariesTest::newNoCells);
        holds("Promise 1", "orders LINE", BoundariesTest::newOrdersLine);
        holds("Promise 1", "weights 1", BoundariesTest::newWeights);
        holds("Promise 1", "slot 0", BoundariesTest::newSlot0);

        holds("Promise 2", "An output's kind of order", BoundariesTest::orderOfThatOutput);
        holds("Promise 2", "false if there are no such ones", BoundariesTest::noSuchOrder);
        holds("Promise 2", "or a cell for it waits", BoundariesTest::orderWhileOneWaits);
        holds("Promise 2", "or is offered", BoundariesTest::orderWhileOneIsOffered);

        holds("Promise 3", "The weight of a class at an output", BoundariesTest::weightOfThatClass);
        holds("Promise 3", "for cells that come from now on", BoundariesTest::weightFromNowOn);
        holds("Promise 3", "(those that are offered have not come yet)", BoundariesTest::weightOfOffered);
        holds("Promise 3", "false if there are none such", BoundariesTest::noSuchWeight);

        holds("Promise 4", "A cell is offered to an input", BoundariesTest::offerToEach);
        holds("Promise 4", "false if there is no such input, output or class", BoundariesTest::noSuchOffer);
        holds("Promise 4", "the input has one offered", BoundariesTest::oneOffered);
        holds("Promise 4", "or 64 cells", BoundariesTest::offerAt64);

        holds("Promise 5", "A slot: how many cells were sent.", BoundariesTest::slotCounts);
        holds("Promise 6", "How many slots there were.", BoundariesTest::slotsCount);

        holds("Promise 7", "Whether an output has sent a cell in the latest slot", BoundariesTest::hasSentLatest);
        holds("Promise 7", "false if there is no such output", BoundariesTest::hasSentNoOutput);
        holds("Promise 8", "The tag of the cell that an output has sent in the latest slot",
            BoundariesTest::sentLatest);
        holds("Promise 8", "0 if it sent none, or there is no such output", BoundariesTest::sentNone);
        holds("Promise 9", "The input from which that came", BoundariesTest::sentFromEach);
        holds("Promise 9", "NONE if it sent none, or there is no such output", BoundariesTest::sentFromNone);
        holds("Promise 10", "How many slots that cell waited behind the one in which it came",
            BoundariesTest::waitedSlots);
        holds("Promise 10", "NONE likewise", BoundariesTest::waitedNone);

        holds("Promise 11", "How many cells of an input wait, an offered one too", BoundariesTest::insideCounts);
        holds("Promise 11", "NONE if there is no such input", BoundariesTest::insideNoInput);
        holds("Promise 12", "How many cells wait for an output, offered ones not", BoundariesTest::waitingCounts);
        holds("Promise 12", "NONE if there is no such output", BoundariesTest::waitingNoOutput);

        holds("Promise 13", "The input of the k-th cell (from 0) in an output's order", BoundariesTest::firstFrom0);
        holds("Promise 13", "NONE if there is none", BoundariesTest::firstNone);
        holds("Promise 14", "The TIME of the k-th cell in an output's order", BoundariesTest::timeOfKth);
        holds("Promise 14", "0 if its order is another one", BoundariesTest::timeOfAnotherOrder);
        holds("Promise 14", "NONE if there is no such cell", BoundariesTest::timeNone);

        holds("Promise 15", "In how many slots, beginning with the next one (0)", BoundariesTest::leavesFrom0);
        holds("Promise 15", "the first accepted of the cells with a tag", BoundariesTest::leavesFirstAccepted);
        holds("Promise 15", "that wait (offered ones not)", BoundariesTest::leavesOfWaiting);
        holds("Promise 15", "if no more cells come, nor those that are offered", BoundariesTest::leavesIfNoneCome);
        holds("Promise 15", "NONE if there is none", BoundariesTest::leavesNone);

        holds("Promise 16", "All cells go", BoundariesTest::resetCells);
        holds("Promise 16", "also offered ones", BoundariesTest::resetOffered);
        holds("Promise 16", "orders, weights and the number of the slot stay", BoundariesTest::resetKeeps);
        holds("Promise 16", "last times are 0", BoundariesTest::resetLastTimes);
        holds("Promise 16", "the outputs have sent none", BoundariesTest::resetSent);
        end();
    }

    private static void newNoCells() {
        CountedSwitch x = new CountedSwitch();
        for (int port = 0; port < 8; port++) {
            due("inside(" + port + ")", x.inside(port), 0);
            due("waiting(" + port + ")", x.waiting(port), 0);
            due("first(" + port + ", 0)", x.first(port, 0), -1);
            due("time(" + port + ", 0)", x.time(port, 0), -1);
            due("hasSent(" + port + ")", x.hasSent(port), false);
            due("sent(" + port + ")", x.sent(port), 0);
            due("sentFrom(" + port + ")", x.sentFrom(port), -1);
            due("waited(" + port + ")", x.waited(port), -1);
        }
        due("leaves(0)", x.leaves(0), -1);
        due("slot()", x.slot(), 0);

        CountedSwitch used = new CountedSwitch();
        used.offerFromAll(0, 0, 0);
        used.slot();
        CountedSwitch other = new CountedSwitch();
        due("waiting(0) of another object", other.waiting(0), 0);
        due("slots() of another object", other.slots(), 0);
    }

    private static void newOrdersLine() {
        for (int output = 0; output < 8; output++) {
            CountedSwitch x = new CountedSwitch();
            for (int input = 0; input < 8; input++) {
                x.offer(input, output, 7 - input, 0);
            }
            x.slot();
            due("no PRIORITY at output " + output, x.inputsInOrder(output), "1 2 3 4 5 6 7");
            due("no CLOCK at output " + output, x.timesInOrder(output), "0 0 0 0 0 0 0");
        }
    }

    private static void newWeights() {
        for (int output = 0; output < 8; output++) {
            CountedSwitch x = new CountedSwitch();
            x.setOrder(output, 2);
            for (int input = 0; input < 8; input++) {
                x.offer(input, output, input, 0);
            }
            x.slot();
            due("classes 1 .. 7", x.timesInOrder(output), "65536 65536 65536 65536 65536 65536 65536");
            x.offer(0, output, 0, 0);
            x.slot();
            due("class 0", x.time(output, x.waiting(output) - 1), 2 * 65536);
        }
    }

    private static void newSlot0() {
        CountedSwitch x = new CountedSwitch();
        due("slots()", x.slots(), 0);
        x.setOrder(0, 2);
        x.offer(0, 0, 0, 0);
        x.offer(1, 0, 1, 0);
        x.slot();
        due("time(0, 0)", x.time(0, 0), 65536);
        due("slots()", x.slots(), 1);
    }

    /**
     * Cells of classes 3, 2, 1, 0 from inputs 0 .. 3; the lesser the class, the greater its weight.
     * Times are told from the slot's own on, and the output is empty again behind it.
     */
    private static String orderThatShows(CountedSwitch x, int output) {
        int[] weights = {255, 128, 64, 32};
        for (int group = 0; group < 4; group++) {
            x.setWeight(output, group, weights[group]);
        }
        for (int input = 0; input < 4; input++) {
            x.offer(input, output, 3 - input, 0);
        }
        long start = 256L * x.slots();
        x.slot();
        StringBuilder shown = new StringBuilder().append(x.sentFrom(output));
        for (int k = 0; k < 3; k++) {
            long time = x.time(output, k);
            shown.append(", ").append(x.first(output, k)).append(" at ").append(time == 0 ? 0 : time - start);
        }
        x.slots(3);
        return shown.toString();
    }

    private static final String[] SHOWN = {"0, 1 at 0, 2 at 0, 3 at 0", "3, 2 at 0, 1 at 0, 0 at 0",
        "3, 2 at 512, 1 at 1024, 0 at 2048"};

    private static void orderOfThatOutput() {
        for (int output = 0; output < 8; output++) {
            for (int kind = 0; kind <= 2; kind++) {
                CountedSwitch x = new CountedSwitch();
                due("setOrder(" + output + ", " + kind + ")", x.setOrder(output, kind), true);
                due("kind " + kind, orderThatShows(x, output), SHOWN[kind]);
            }
            CountedSwitch y = new CountedSwitch();
            y.setOrder(output, 1);
            due("another output stays LINE", orderThatShows(y, (output + 1) % 8), SHOWN[0]);
            CountedSwitch z = new CountedSwitch();
            due("setOrder to 2", z.setOrder(output, 2), true);
            due("setOrder to 2 again", z.setOrder(output, 2), true);
            due("setOrder to 1", z.setOrder(output, 1), true);
            due("the latest one counts", orderThatShows(z, output), SHOWN[1]);
            due("setOrder back to 0", z.setOrder(output, 0), true);
            due("back at LINE", orderThatShows(z, output), SHOWN[0]);
        }
    }

    private static void noSuchOrder() {
        for (int output = -2; output <= 9; output++) {
            for (int kind = -2; kind <= 4; kind++) {
                CountedSwitch x = new CountedSwitch();
                due("setOrder(" + output + ", " + kind + ")", x.setOrder(output, kind),
                    isOneOfEight(output) && kind >= 0 && kind <= 2);
            }
        }
        for (int far : FAR) {
            CountedSwitch x = new CountedSwitch();
            due("setOrder(" + far + ", 0)", x.setOrder(far, 0), false);
            due("setOrder(0, " + far + ")", x.setOrder(0, far), false);
            due("setOrder(" + far + ", " + far + ")", x.setOrder(far, far), false);
        }
        CountedSwitch y = new CountedSwitch();
        y.setOrder(0, 1);
        y.setOrder(0, 3);
        y.setOrder(0, -1);
        due("the order stays", orderThatShows(y, 0), SHOWN[1]);
    }

    private static void orderWhileOneWaits() {
        for (int kind = 0; kind <= 2; kind++) {
            for (int next = 0; next <= 2; next++) {
                CountedSwitch x = new CountedSwitch();
                x.setOrder(7, kind);
                x.offer(0, 7, 0, 0);
                x.offer(1, 7, 0, 0);
                x.slot();
                due("setOrder(7, " + next + "), one waits", x.setOrder(7, next), false);
                due("setOrder of another output", x.setOrder(6, next), true);
                x.slot();
                due("the order stays", orderThatShows(x, 7), SHOWN[kind]);
                due("setOrder(7, " + next + "), the last one has left", x.setOrder(7, next), true);
                due("the order is the new one", orderThatShows(x, 7), SHOWN[next]);
            }
        }
    }

    private static void orderWhileOneIsOffered() {
        for (int input = 0; input < 8; input++) {
            CountedSwitch x = new CountedSwitch();
            x.offer(input, 3, 0, 0);
            due("setOrder, input " + input + " has one offered", x.setOrder(3, 1), false);
            due("setOrder to the kind that it has", x.setOrder(3, 0), false);
            due("setOrder of another output", x.setOrder(4, 1), true);
            x.slot();
            due("setOrder, it came and left", x.setOrder(3, 1), true);
            due("the order is the new one", orderThatShows(x, 3), SHOWN[1]);
        }
        CountedSwitch y = new CountedSwitch();
        y.offer(0, 3, 8, 0);
        y.offer(8, 3, 0, 0);
        due("setOrder, the offers were refused", y.setOrder(3, 1), true);
        y.offer(0, 3, 0, 0);
        y.setOrder(3, 0);
        y.reset();
        due("a refused order is not taken", orderThatShows(y, 3), SHOWN[1]);
    }

    private static void weightOfThatClass() {
        for (int output = 0; output < 8; output++) {
            for (int group = 0; group < 8; group++) {
                CountedSwitch x = new CountedSwitch();
                int beside = (output + 1) % 8;
                x.setOrder(output, 2);
                x.setOrder(beside, 2);
                due("setWeight", x.setWeight(output, group, 2), true);
                x.offer(0, output, group, 0);
                x.offer(1, output, group, 0);
                x.offer(2, output, (group + 1) % 8, 0);
                x.offer(3, output, (group + 7) % 8, 0);
                x.offer(4, beside, group, 0);
                x.offer(5, beside, group, 0);
                x.slot();
                due("that class, and those beside it", x.timesInOrder(output), "65536 65536 65536");
                due("that class first, its two times are 32768 and 65536", x.inputsInOrder(output), "1 2 3");
                due("another output", x.timesInOrder(beside), "131072");
            }
        }
        for (int kind = 0; kind <= 1; kind++) {
            CountedSwitch y = new CountedSwitch();
            y.setOrder(0, kind);
            due("setWeight at kind " + kind, y.setWeight(0, 0, 4), true);
            y.setOrder(0, 2);
            y.offer(0, 0, 0, 0);
            y.offer(1, 0, 0, 0);
            y.slot();
            due("it holds when the order is CLOCK", y.time(0, 0), 2 * 16384);
        }
    }

    private static void weightFromNowOn() {
        CountedSwitch x = new CountedSwitch();
        x.setOrder(0, 2);
        x.setWeight(0, 0, 4);
        x.offer(0, 0, 0, 0);
        x.offer(1, 0, 0, 0);
        x.offer(2, 0, 0, 0);
        x.slot();
        due("times", x.timesInOrder(0), "32768 49152");
        due("setWeight while they wait", x.setWeight(0, 0, 255), true);
        due("they keep their times", x.timesInOrder(0), "32768 49152");
        x.offer(3, 0, 0, 0);
        x.slot();
        due("one that comes then", x.timesInOrder(0), "49152 49410");
        due("setWeight again", x.setWeight(0, 0, 1), true);
        x.offer(3, 0, 0, 0);
        x.slot();
        due("one that comes then", x.timesInOrder(0), "49410 114946");
    }

    private static void weightOfOffered() {
        CountedSwitch x = new CountedSwitch();
        x.setOrder(0, 2);
        x.offer(0, 0, 0, 0);
        x.offer(1, 0, 0, 0);
        due("setWeight while they are offered", x.setWeight(0, 0, 255), true);
        x.slot();
        due("the new weight", x.timesInOrder(0), "516");
    }

    private static void noSuchWeight() {
        for (int output = -2; output <= 9; output++) {
            for (int group = -2; group <= 9; group++) {
                CountedSwitch x = new CountedSwitch();
                boolean both = isOneOfEight(output) && isOneOfEight(group);
                String of = "setWeight(" + output + ", " + group + ", ";
                due(of + "0)", x.setWeight(output, group, 0), false);
                due(of + "1)", x.setWeight(output, group, 1), both);
                due(of + "255)", x.setWeight(output, group, 255), both);
                due(of + "256)", x.setWeight(output, group, 256), false);
                due(of + "-1)", x.setWeight(output, group, -1), false);
            }
        }
        for (int far : FAR) {
            CountedSwitch x = new CountedSwitch();
            due("setWeight(" + far + ", 0, 1)", x.setWeight(far, 0, 1), false);
            due("setWeight(0, " + far + ", 1)", x.setWeight(0, far, 1), false);
            due("setWeight(0, 0, " + far + ")", x.setWeight(0, 0, far), false);
        }
        CountedSwitch y = new CountedSwitch();
        y.setOrder(0, 2);
        y.setWeight(0, 0, 128);
        int[] none = {0, -1, 256, Integer.MIN_VALUE, Integer.MAX_VALUE};
        for (int weight : none) {
            y.setWeight(0, 0, weight);
        }
        y.offer(0, 0, 0, 0);
        y.offer(1, 0, 0, 0);
        y.slot();
        due("the weight stays", y.time(0, 0), 1024);
    }

    private static void offerToEach() {
        for (int input = 0; input < 8; input++) {
            for (int output = 0; output < 8; output++) {
                CountedSwitch x = new CountedSwitch();
                due("offer(" + input + ", " + output + ", 7, 5)", x.offer(input, output, 7, 5), true);
                due("inside(" + input + ")", x.inside(input), 1);
                due("inside of another", x.inside((input + 1) % 8), 0);
                due("slots()", x.slots(), 0);
                due("slot()", x.slot(), 1);
                due("sent(" + output + ")", x.sent(output), 5);
                due("sentFrom(" + output + ")", x.sentFrom(output), input);
            }
        }
    }

    private static void noSuchOffer() {
        int[] edge = {-1, 0, 7, 8};
        for (int input : edge) {
            for (int output : edge) {
                for (int group : edge) {
                    CountedSwitch x = new CountedSwitch();
                    boolean all = isOneOfEight(input) && isOneOfEight(output) && isOneOfEight(group);
                    due("offer(" + input + ", " + output + ", " + group + ", 0)",
                        x.offer(input, output, group, 0), all);
                    due("slot() then", x.slot(), all ? 1 : 0);
                }
            }
        }
        for (int far : FAR) {
            CountedSwitch x = new CountedSwitch();
            due("offer(" + far + ", 0, 0, 0)", x.offer(far, 0, 0, 0), false);
            due("offer(0, " + far + ", 0, 0)", x.offer(0, far, 0, 0), false);
            due("offer(0, 0, " + far + ", 0)", x.offer(0, 0, far, 0), false);
            due("an offer behind the refused ones", x.offer(0, 0, 0, far), true);
        }
    }

    private static void oneOffered() {
        for (int input = 0; input < 8; input++) {
            CountedSwitch x = new CountedSwitch();
            x.offer(input, 0, 0, 1);
            for (int other = 0; other < 8; other++) {
                due("offer(" + other + ", 1, 0, 2), input " + input + " has one offered",
                    x.offer(other, 1, 0, 2), other != input);
            }
            due("slot()", x.slot(), 2);
            due("the first offer stands", x.sent(0), 1);
            due("an offer behind the slot", x.offer(input, 0, 0, 3), true);
        }
    }

    /** Input 1's cells of class 1 wait at output 0 behind input 0's of class 0. */
    private static CountedSwitch withWaiting(int count) {
        CountedSwitch x = new CountedSwitch();
        x.setOrder(0, 1);
        for (int n = 0; n < count; n++) {
            x.offer(0, 0, 0, -1);
            due("offer of cell " + (n + 1), x.offer(1, 0, 1, n), true);
            x.slot();
        }
        return x;
    }

    private static void offerAt64() {
        CountedSwitch x = withWaiting(63);
        due("inside(1)", x.inside(1), 63);
        due("offer of cell 64", x.offer(1, 0, 1, 63), true);
        due("inside(1), one offered", x.inside(1), 64);
        due("offer with 63 and one offered", x.offer(1, 0, 1, 64), false);

        CountedSwitch y = withWaiting(64);
        due("inside(1)", y.inside(1), 64);
        due("offer of cell 65", y.offer(1, 0, 1, 64), false);
        due("offer of cell 65 for another output", y.offer(1, 7, 0, 64), false);
        due("inside(1)", y.inside(1), 64);
        due("slot()", y.slot(), 1);
        due("sent(0)", y.sent(0), 0);
        due("inside(1), one has left", y.inside(1), 63);
        due("offer", y.offer(1, 7, 0, 64), true);
        due("slot()", y.slot(), 2);
        due("sent(7)", y.sent(7), 64);
        due("inside(1)", y.inside(1), 62);

        CountedSwitch z = withWaiting(64);
        z.reset();
        due("offer behind a reset", z.offer(1, 0, 1, 64), true);
    }

    private static void slotCounts() {
        for (int count = 0; count <= 8; count++) {
            CountedSwitch x = new CountedSwitch();
            for (int input = 0; input < count; input++) {
                x.offer(input, input, 0, 0);
            }
            due("slot() with cells for " + count + " outputs", x.slot(), count);
            due("slot() once more", x.slot(), 0);
        }
        CountedSwitch y = new CountedSwitch();
        y.offerFromAll(5, 0, 0);
        due("slot() with eight cells for one output", y.slot(), 1);
    }

    private static void slotsCount() {
        CountedSwitch x = new CountedSwitch();
        for (int n = 0; n < 20; n++) {
            due("slots()", x.slots(), n);
            due("slots() again", x.slots(), n);
            x.offer(0, n % 3 == 0 ? 0 : 8, 0, 0);
            x.setOrder(1, n % 4);
            x.setWeight(1, 0, n);
            due("slots() behind other calls", x.slots(), n);
            x.slot();
        }
    }

    private static void hasSentLatest() {
        CountedSwitch x = new CountedSwitch();
        due("hasSent(0) before any slot", x.hasSent(0), false);
        x.offer(0, 0, 0, 0);
        due("hasSent(0), offered", x.hasSent(0), false);
        x.slot();
        due("hasSent(0), tag 0", x.hasSent(0), true);
        due("hasSent(1)", x.hasSent(1), false);
        due("hasSent(7)", x.hasSent(7), false);
        x.offer(0, 7, 0, 0);
        due("hasSent(0) up to the next slot", x.hasSent(0), true);
        x.slot();
        due("hasSent(0), sent in the slot before", x.hasSent(0), false);
        due("hasSent(7)", x.hasSent(7), true);
    }

    private static CountedSwitch allHaveSent() {
        CountedSwitch x = new CountedSwitch();
        for (int port = 0; port < 8; port++) {
            x.offer(port, port, 0, 100 + port);
        }
        x.slot();
        return x;
    }

    private static void hasSentNoOutput() {
        CountedSwitch x = allHaveSent();
        for (int none : NO_PORTS) {
            due("hasSent(" + none + ")", x.hasSent(none), false);
        }
        due("hasSent(0)", x.hasSent(0), true);
        due("hasSent(7)", x.hasSent(7), true);
    }

    private static void sentLatest() {
        int[] tags = {Integer.MIN_VALUE, -1, 0, 1, Integer.MAX_VALUE};
        for (int tag : tags) {
            CountedSwitch x = new CountedSwitch();
            x.offer(2, 7, 0, tag);
            x.offer(3, 7, 0, 5);
            x.slot();
            due("sent(7)", x.sent(7), tag);
            x.offer(2, 7, 0, 6);
            due("sent(7) up to the next slot", x.sent(7), tag);
            x.slot();
            due("sent(7)", x.sent(7), 5);
            x.slot();
            due("sent(7)", x.sent(7), 6);
            x.slot();
            due("sent(7), none in the latest slot", x.sent(7), 0);
        }
    }

    private static void sentNone() {
        CountedSwitch x = allHaveSent();
        for (int none : NO_PORTS) {
            due("sent(" + none + ")", x.sent(none), 0);
        }
        due("sent(0)", x.sent(0), 100);
        due("sent(7)", x.sent(7), 107);
        x.offer(0, 0, 0, 9);
        x.slot();
        due("sent(0)", x.sent(0), 9);
        for (int output = 1; output < 8; output++) {
            due("sent(" + output + "), none in the latest slot", x.sent(output), 0);
        }
        due("sent(0) of a new object", new CountedSwitch().sent(0), 0);
    }

    private static void sentFromEach() {
        for (int input = 0; input < 8; input++) {
            CountedSwitch x = new CountedSwitch();
            x.offer(input, 3, 0, 50);
            x.slot();
            due("sentFrom(3)", x.sentFrom(3), input);
            x.offer((input + 1) % 8, 3, 0, 51);
            due("sentFrom(3) up to the next slot", x.sentFrom(3), input);
            x.slot();
            due("sentFrom(3)", x.sentFrom(3), (input + 1) % 8);
        }
    }

    private static void sentFromNone() {
        CountedSwitch x = allHaveSent();
        for (int none : NO_PORTS) {
            due("sentFrom(" + none + ")", x.sentFrom(none), -1);
        }
        x.slot();
        for (int output = 0; output < 8; output++) {
            due("sentFrom(" + output + "), none in the latest slot", x.sentFrom(output), -1);
        }
        due("sentFrom(0) of a new object", new CountedSwitch().sentFrom(0), -1);
    }

    private static void waitedSlots() {
        CountedSwitch x = new CountedSwitch();
        x.slots(3);
        x.offerFromAll(4, 0, 0);
        for (int n = 0; n < 8; n++) {
            x.slot();
            due("waited(4) of cell " + n, x.waited(4), n);
        }
        x.offer(0, 4, 0, 0);
        due("waited(4) up to the next slot", x.waited(4), 7);
        x.slot();
        due("waited(4), it leaves in the slot in which it comes", x.waited(4), 0);
    }

    private static void waitedNone() {
        CountedSwitch x = allHaveSent();
        for (int none : NO_PORTS) {
            due("waited(" + none + ")", x.waited(none), -1);
        }
        x.slot();
        for (int output = 0; output < 8; output++) {
            due("waited(" + output + "), none in the latest slot", x.waited(output), -1);
        }
        due("waited(0) of a new object", new CountedSwitch().waited(0), -1);
    }

    private static void insideCounts() {
        CountedSwitch x = new CountedSwitch();
        x.offer(7, 0, 0, 0);
        due("inside(7), offered", x.inside(7), 1);
        x.offer(7, 0, 0, 0);
        due("inside(7), the second offer was refused", x.inside(7), 1);
        x.offer(0, 0, 0, 0);
        x.slot();
        due("inside(7), it waits", x.inside(7), 1);
        due("inside(0), it has left", x.inside(0), 0);
        x.offer(7, 1, 0, 0);
        due("inside(7), one waits and one is offered", x.inside(7), 2);
        x.slot();
        due("inside(7), both have left", x.inside(7), 0);
    }

    private static void insideNoInput() {
        CountedSwitch x = new CountedSwitch();
        x.offerFromAll(0, 0, 0);
        for (int none : NO_PORTS) {
            due("inside(" + none + ")", x.inside(none), -1);
        }
        due("inside(0)", x.inside(0), 1);
        due("inside(7)", x.inside(7), 1);
    }

    private static void waitingCounts() {
        CountedSwitch x = new CountedSwitch();
        x.offerFromAll(7, 0, 0);
        due("waiting(7), offered", x.waiting(7), 0);
        for (int n = 7; n >= 0; n--) {
            x.slot();
            due("waiting(7)", x.waiting(7), n);
        }
        x.slot();
        due("waiting(7), none is there", x.waiting(7), 0);
        x.offer(0, 7, 0, 0);
        x.offer(1, 7, 0, 0);
        x.slot();
        x.offer(0, 7, 0, 0);
        due("waiting(7), one waits and one is offered", x.waiting(7), 1);
    }

    private static void waitingNoOutput() {
        CountedSwitch x = new CountedSwitch();
        for (int none : NO_PORTS) {
            due("waiting(" + none + ")", x.waiting(none), -1);
        }
        due("waiting(0)", x.waiting(0), 0);
        due("waiting(7)", x.waiting(7), 0);
    }

    private static void firstFrom0() {
        for (int output = 0; output < 8; output++) {
            CountedSwitch x = new CountedSwitch();
            x.setOrder(output, 1);
            for (int input = 0; input < 8; input++) {
                x.offer(input, output, 7 - input, 0);
            }
            x.slot();
            for (int k = 0; k < 7; k++) {
                due("first(" + output + ", " + k + ")", x.first(output, k), 6 - k);
            }
        }
    }

    private static void firstNone() {
        CountedSwitch x = new CountedSwitch();
        due("first(0, 0), an empty order", x.first(0, 0), -1);
        x.offerFromAll(0, 0, 0);
        due("first(0, 0), offered", x.first(0, 0), -1);
        x.slot();
        due("first(0, -1)", x.first(0, -1), -1);
        due("first(0, 0)", x.first(0, 0), 1);
        due("first(0, 6)", x.first(0, 6), 7);
        due("first(0, 7)", x.first(0, 7), -1);
        due("first(1, 0), an empty order", x.first(1, 0), -1);
        for (int far : FAR) {
            due("first(0, " + far + ")", x.first(0, far), -1);
        }
        for (int none : NO_PORTS) {
            due("first(" + none + ", 0)", x.first(none, 0), -1);
            due("first(" + none + ", " + none + ")", x.first(none, none), -1);
        }
        x.slots(7);
        due("first(0, 0), all have left", x.first(0, 0), -1);
    }

    private static void timeOfKth() {
        for (int output = 0; output < 8; output++) {
            CountedSwitch x = new CountedSwitch();
            x.setOrder(output, 2);
            x.slot();
            x.offerFromAll(output, 0, 0);
            x.slot();
            for (int k = 0; k < 7; k++) {
                due("time(" + output + ", " + k + ")", x.time(output, k), 256 + (k + 2) * 65536);
            }
        }
    }

    private static void timeOfAnotherOrder() {
        for (int kind = 0; kind <= 1; kind++) {
            CountedSwitch x = new CountedSwitch();
            x.setOrder(0, 2);
            x.offerFromAll(0, 0, 0);
            x.slots(8);
            due("setOrder(0, " + kind + ")", x.setOrder(0, kind), true);
            x.offerFromAll(0, 0, 0);
            x.slot();
            for (int k = 0; k < 7; k++) {
                due("time(0, " + k + "), kind " + kind, x.time(0, k), 0);
            }
        }
    }

    private static void timeNone() {
        for (int kind = 0; kind <= 2; kind++) {
            CountedSwitch x = new CountedSwitch();
            x.setOrder(0, kind);
            due("time(0, 0), an empty order", x.time(0, 0), -1);
            x.offerFromAll(0, 0, 0);
            due("time(0, 0), offered", x.time(0, 0), -1);
            x.slot();
            due("time(0, -1)", x.time(0, -1), -1);
            due("time(0, 0)", x.time(0, 0), kind == 2 ? 2 * 65536 : 0);
            due("time(0, 6)", x.time(0, 6), kind == 2 ? 8 * 65536 : 0);
            due("time(0, 7)", x.time(0, 7), -1);
            for (int far : FAR) {
                due("time(0, " + far + ")", x.time(0, far), -1);
            }
            for (int none : NO_PORTS) {
                due("time(" + none + ", 0)", x.time(none, 0), -1);
                due("time(" + none + ", " + none + ")", x.time(none, none), -1);
            }
            x.slots(7);
            due("time(0, 0), all have left", x.time(0, 0), -1);
        }
    }

    private static void leavesFrom0() {
        for (int kind = 0; kind <= 2; kind++) {
            CountedSwitch x = new CountedSwitch();
            x.setOrder(7, kind);
            for (int input = 0; input < 8; input++) {
                x.offer(input, 7, 4, 20 + input);
            }
            x.slot();
            for (int after = 0; after < 7; after++) {
                for (int input = 1 + after; input < 8; input++) {
                    due("leaves(" + (20 + input) + ")", x.leaves(20 + input), input - 1 - after);
                }
                x.slot();
                due("it has left just then", x.sent(7), 21 + after);
            }
        }
    }

    private static void leavesFirstAccepted() {
        CountedSwitch x = new CountedSwitch();
        x.setOrder(0, 1);
        x.offer(7, 0, 7, 5);
        x.offer(1, 0, 1, 5);
        x.offer(0, 0, 0, 1);
        x.slot();
        due("it waits behind another with the tag", x.leaves(5), 1);
        x.offer(2, 0, 1, 5);
        x.offer(3, 0, 1, 5);
        x.slot();
        due("others with the tag came before it", x.leaves(5), 2);

        CountedSwitch y = new CountedSwitch();
        y.offer(5, 0, 0, 1);
        y.offer(6, 0, 0, 1);
        y.offer(7, 0, 0, 9);
        y.offer(0, 7, 0, 2);
        y.offer(1, 7, 0, 9);
        y.slot();
        due("over two outputs, output 0's was accepted first", y.leaves(9), 1);
        CountedSwitch z = new CountedSwitch();
        z.offer(1, 7, 0, 9);
        z.offer(0, 7, 0, 2);
        z.offer(5, 0, 0, 1);
        z.offer(6, 0, 0, 1);
        z.offer(7, 0, 0, 9);
        z.slot();
        due("over two outputs, output 7's was accepted first", z.leaves(9), 0);
        z.slot();
        due("the first accepted has left", z.leaves(9), 0);
        z.slot();
        due("both have left", z.leaves(9), -1);

        CountedSwitch refused = new CountedSwitch();
        refused.offer(1, 0, 0, 1);
        refused.offer(1, 0, 0, 9);
        refused.offer(2, 0, 0, 2);
        refused.offer(3, 0, 0, 9);
        refused.slot();
        due("a refused one does not count", refused.leaves(9), 1);
    }

    private static void leavesOfWaiting() {
        CountedSwitch x = new CountedSwitch();
        x.offer(0, 0, 0, 3);
        due("leaves(3), offered", x.leaves(3), -1);
        x.slot();
        due("leaves(3), it has left", x.leaves(3), -1);
        x.offer(0, 0, 0, 3);
        x.offer(1, 0, 0, 3);
        x.offer(2, 0, 0, 4);
        x.slot();
        due("leaves(3), the second one waits", x.leaves(3), 0);
        x.offer(5, 0, 0, 3);
        x.slot();
        due("leaves(3), the one that was offered then", x.leaves(3), 1);
    }

    private static void leavesIfNoneCome() {
        CountedSwitch x = new CountedSwitch();
        x.setOrder(0, 1);
        x.offer(0, 0, 0, 1);
        x.offer(1, 0, 5, 2);
        x.slot();
        x.offer(2, 0, 0, 3);
        x.offer(3, 0, 0, 4);
        due("leaves(2), two are offered that would go before it", x.leaves(2), 0);
        x.slot();
        due("leaves(2), they have come", x.leaves(2), 1);
    }

    private static void leavesNone() {
        int[] tags = {Integer.MIN_VALUE, -1, 0, 1, 41, 43, Integer.MAX_VALUE};
        CountedSwitch x = new CountedSwitch();
        for (int tag : tags) {
            due("leaves(" + tag + ") of a new object", x.leaves(tag), -1);
        }
        x.offerFromAll(0, 0, 42);
        x.slot();
        for (int tag : tags) {
            due("leaves(" + tag + "), others wait", x.leaves(tag), -1);
        }
        for (int bit = 0; bit < 32; bit++) {
            due("a tag that differs in bit " + bit, x.leaves(42 ^ 1 << bit), -1);
        }
        due("leaves(42)", x.leaves(42), 0);
    }

    private static CountedSwitch busy() {
        CountedSwitch x = new CountedSwitch();
        for (int output = 0; output < 8; output++) {
            x.offerFromAll(output, 0, 3);
            x.slot();
        }
        return x;
    }

    private static void resetCells() {
        CountedSwitch x = busy();
        x.reset();
        for (int port = 0; port < 8; port++) {
            due("inside(" + port + ")", x.inside(port), 0);
            due("waiting(" + port + ")", x.waiting(port), 0);
            due("first(" + port + ", 0)", x.first(port, 0), -1);
            due("time(" + port + ", 0)", x.time(port, 0), -1);
            due("setOrder(" + port + ", 1)", x.setOrder(port, 1), true);
        }
        due("leaves(3)", x.leaves(3), -1);
        due("slot()", x.slot(), 0);

        CountedSwitch full = withWaiting(64);
        full.reset();
        due("inside of a full input", full.inside(1), 0);
        due("offer to it", full.offer(1, 0, 0, 8), true);
        due("slot()", full.slot(), 1);
        due("sent(0)", full.sent(0), 8);
        due("inside(1)", full.inside(1), 0);
    }

    private static void resetOffered() {
        for (int input = 0; input < 8; input++) {
            CountedSwitch x = new CountedSwitch();
            x.offer(input, 2, 0, 3);
            x.reset();
            due("inside(" + input + ")", x.inside(input), 0);
            due("setOrder(2, 1)", x.setOrder(2, 1), true);
            due("slot()", x.slot(), 0);
            due("leaves(3)", x.leaves(3), -1);
            due("offer", x.offer(input, 2, 0, 4), true);
            x.reset();
            due("offer in the same slot", x.offer(input, 2, 0, 5), true);
            x.slot();
            due("sent(2)", x.sent(2), 5);
        }
    }

    private static void resetKeeps() {
        for (int output = 0; output < 8; output++) {
            for (int kind = 0; kind <= 2; kind++) {
                CountedSwitch x = new CountedSwitch();
                x.setOrder(output, kind);
                x.reset();
                due("the order", orderThatShows(x, output), SHOWN[kind]);
            }
            for (int group = 0; group < 8; group++) {
                CountedSwitch x = new CountedSwitch();
                x.setOrder(output, 2);
                x.setWeight(output, group, 128);
                x.slots(3);
                x.reset();
                due("slots()", x.slots(), 3);
                x.offer(0, output, group, 0);
                x.offer(1, output, group, 0);
                x.slot();
                due("weight and the slot's number", x.timesInOrder(output), 3 * 256 + 2 * 512);
                due("slots()", x.slots(), 4);
            }
        }
        CountedSwitch y = new CountedSwitch();
        y.reset();
        due("slots() behind the reset of a new object", y.slots(), 0);
        y.slot();
        y.reset();
        y.reset();
        due("slots() behind two resets", y.slots(), 1);
    }

    private static void resetLastTimes() {
        for (int output = 0; output < 8; output++) {
            for (int group = 0; group < 8; group++) {
                CountedSwitch x = new CountedSwitch();
                x.setOrder(output, 2);
                x.offerFromAll(output, group, 0);
                x.slot();
                due("waiting(" + output + ")", x.waiting(output), 7);
                x.reset();
                x.offer(0, output, group, 0);
                x.offer(1, output, group, 0);
                x.slot();
                due("output " + output + ", class " + group, x.timesInOrder(output), 256 + 2 * 65536);
            }
        }
    }

    private static void resetSent() {
        CountedSwitch x = allHaveSent();
        x.reset();
        for (int output = 0; output < 8; output++) {
            due("hasSent(" + output + ")", x.hasSent(output), false);
            due("sent(" + output + ")", x.sent(output), 0);
            due("sentFrom(" + output + ")", x.sentFrom(output), -1);
            due("waited(" + output + ")", x.waited(output), -1);
        }
    }
}
