/** The sentences with bounds under 'What it is' and 'Terms'. */
public final class TermsTest extends SentenceTest {
    private static final String WHAT = "What it is";
    private static final String TERMS = "Terms";

    public static void main(String[] args) {
        holds(WHAT, "A switch of eight inputs and eight outputs", TermsTest::eightInputsAndOutputs);
        holds(WHAT, "An object is used for at most 512 calls after it has been made", TermsTest::upToCall512);
        holds(TERMS, "In a SLOT each input takes at most one cell, which was OFFERED to it since the slot before",
            TermsTest::anInputTakesOne);
        holds(TERMS, "with an OUTPUT, a CLASS 0 .. 7, a TAG", TermsTest::classesAndTags);
        holds(TERMS, "and each output sends at most one", TermsTest::anOutputSendsOne);
        holds(TERMS, "CELLS of an input that wait, offered ones too, are at most 64.", TermsTest::atMost64);
        holds(TERMS, "are at most 64.", TermsTest::atMost64OverAllOutputs);
        holds(TERMS, "CELLS of an input", TermsTest::atMost64OfEachInput);
        holds(TERMS, "a cell that comes goes behind all cells that are before it by its KIND of order, "
            + "before those which it is before", TermsTest::intoTheMiddle);
        holds(TERMS, "0 LINE (at first): behind all.", TermsTest::line);
        holds(TERMS, "1 PRIORITY: behind those with its class, or a lesser one.", TermsTest::priority);
        holds(TERMS, "2 CLOCK: a cell gets a TIME when it comes", TermsTest::timeOnComing);
        holds(TERMS, "the greater one of 256 times the slot's number and the LAST TIME", TermsTest::theGreaterOne);
        holds(TERMS, "the LAST TIME of its class at this output", TermsTest::lastTimeOfItsClassAndOutput);
        holds(TERMS, "65536 divided by the WEIGHT of its class at this output (upwards to a whole number)",
            TermsTest::upwards);
        holds(TERMS, "the last time of its class is that, then", TermsTest::lastTimeIsThat);
        holds(TERMS, "it goes behind those whose time is not above its own", TermsTest::equalTimes);
        holds(TERMS, "Weights are 1 .. 255, at first 1.", TermsTest::weights);
        holds(TERMS, "When an output, having sent, has no cell that waits, all last times at it are 0.",
            TermsTest::lastTimesGo);
        holds(TERMS, "has no cell that waits", TermsTest::lastTimesStayWhileOneWaits);
        holds(TERMS, "all last times at it are 0", TermsTest::lastTimesGoAtThatOutputAlone);
        holds(TERMS, "its number (the first one is 0)", TermsTest::firstSlotIsNumber0);
        holds(TERMS, "the cells that were offered come to their outputs' orders, by their inputs' numbers",
            TermsTest::byInputsNumbers);
        holds(TERMS, "each output that has a cell sends the first one", TermsTest::eachOutputSends);
        holds(TERMS, "The constants: `NONE = -1`: None.", TermsTest::none);
        end();
    }

    private static void eightInputsAndOutputs() {
        for (int input = -2; input <= 9; input++) {
            for (int output = -2; output <= 9; output++) {
                CountedSwitch x = new CountedSwitch();
                boolean both = isOneOfEight(input) && isOneOfEight(output);
                due("offer(" + input + ", " + output + ", 0, 0)", x.offer(input, output, 0, 0), both);
                due("slot() then", x.slot(), both ? 1 : 0);
                due("sentFrom(" + output + ")", x.sentFrom(output), both ? input : -1);
            }
        }
    }

    private static void upToCall512() {
        CountedSwitch x = new CountedSwitch();
        x.slots(511);
        due("slots() as call 512", x.slots(), 511);

        CountedSwitch late = new CountedSwitch();
        late.setOrder(0, 2);
        late.slots(507);
        late.offer(0, 0, 0, 1);
        late.offer(1, 0, 0, 2);
        late.slot();
        due("time(0, 0) as call 512", late.time(0, 0), 507 * 256 + 2 * 65536);
        due("calls left", late.callsLeft(), 0);

        CountedSwitch sends = new CountedSwitch();
        sends.slots(506);
        due("offer", sends.offer(7, 7, 7, 9), true);
        due("slot()", sends.slot(), 1);
        due("hasSent(7)", sends.hasSent(7), true);
        due("sent(7)", sends.sent(7), 9);
        due("sentFrom(7)", sends.sentFrom(7), 7);
        due("waited(7) as call 512", sends.waited(7), 0);
        due("calls left", sends.callsLeft(), 0);

        CountedSwitch full = new CountedSwitch();
        full.setOrder(0, 2);
        for (int n = 0; n < 56; n++) {
            for (int input = 0; input < 8; input++) {
                due("offer", full.offer(input, 0, 0, 8 * n + input), true);
            }
            due("slot()", full.slot(), 1);
        }
        due("waiting(0)", full.waiting(0), 392);
        due("inside(7)", full.inside(7), 49);
        due("first(0, 391)", full.first(0, 391), 7);
        due("first(0, 392)", full.first(0, 392), -1);
        due("time(0, 391)", full.time(0, 391), 448L * 65536);
        due("time(0, 392)", full.time(0, 392), -1);
        due("leaves(447) as call 512", full.leaves(447), 391);
        due("calls left", full.callsLeft(), 0);
    }

    private static void anInputTakesOne() {
        CountedSwitch x = new CountedSwitch();
        due("the first offer", x.offer(3, 0, 0, 1), true);
        due("the same again", x.offer(3, 0, 0, 1), false);
        due("one for another output", x.offer(3, 1, 5, 2), false);
        due("one to another input", x.offer(4, 0, 0, 3), true);
        due("inside(3)", x.inside(3), 1);
        due("slot()", x.slot(), 1);
        due("sent(0)", x.sent(0), 1);
        due("an offer behind the slot", x.offer(3, 1, 0, 4), true);
        due("a second one behind it", x.offer(3, 1, 0, 5), false);
        due("slot()", x.slot(), 2);
        due("sent(0)", x.sent(0), 3);
        due("sent(1)", x.sent(1), 4);
        due("a cell comes once alone", x.slot(), 0);
    }

    private static void classesAndTags() {
        for (int group = -2; group <= 9; group++) {
            CountedSwitch x = new CountedSwitch();
            due("offer with class " + group, x.offer(0, 0, group, 1), isOneOfEight(group));
        }
        int[] tags = {Integer.MIN_VALUE, -2, -1, 0, 1, 7, 8, 65536, Integer.MAX_VALUE};
        for (int tag : tags) {
            CountedSwitch x = new CountedSwitch();
            due("offer with tag " + tag, x.offer(0, 0, 0, tag), true);
            due("offer with tag " + tag, x.offer(1, 0, 0, tag), true);
            due("leaves of one offered", x.leaves(tag), -1);
            x.slot();
            due("hasSent(0)", x.hasSent(0), true);
            due("sent(0)", x.sent(0), tag);
            due("leaves(" + tag + ")", x.leaves(tag), 0);
        }
    }

    private static void anOutputSendsOne() {
        CountedSwitch x = new CountedSwitch();
        x.offerFromAll(0, 0, 1);
        for (int n = 0; n < 8; n++) {
            due("slot() with " + (8 - n) + " cells for one output", x.slot(), 1);
            due("waiting(0)", x.waiting(0), 7 - n);
        }
        due("slot() with none", x.slot(), 0);
    }

    private static void atMost64() {
        CountedSwitch x = new CountedSwitch();
        x.setOrder(0, 1);
        for (int n = 1; n <= 64; n++) {
            due("offer of cell " + n, x.offer(5, 0, 1, n), true);
            due("inside(5), the last one offered", x.inside(5), n);
            x.offer(0, 0, 0, 0);
            x.slot();
            due("inside(5), all wait", x.inside(5), n);
        }
        due("offer of cell 65", x.offer(5, 0, 1, 65), false);
        due("offer of cell 65, class 0", x.offer(5, 0, 0, 65), false);
        due("offer of cell 65 for another output", x.offer(5, 3, 1, 65), false);
        due("inside(5)", x.inside(5), 64);
        due("offer to another input", x.offer(4, 0, 7, 66), true);
        due("slot()", x.slot(), 1);
        due("sentFrom(0)", x.sentFrom(0), 5);
        due("inside(5), one has left", x.inside(5), 63);
        due("offer, 63 wait", x.offer(5, 0, 1, 65), true);
        due("inside(5), 63 wait and one is offered", x.inside(5), 64);
        due("offer, 63 wait and one is offered", x.offer(5, 0, 1, 67), false);
        due("slot()", x.slot(), 1);
        due("inside(5), one has come and one left", x.inside(5), 63);
        due("waiting(0)", x.waiting(0), 64);
    }

    private static void atMost64OverAllOutputs() {
        CountedSwitch x = new CountedSwitch();
        x.setOrder(0, 1);
        x.setOrder(7, 1);
        for (int n = 1; n <= 64; n++) {
            due("offer of cell " + n, x.offer(2, n % 2 == 0 ? 0 : 7, 7, n), true);
            x.offer(0, 0, 0, 0);
            x.offer(1, 7, 0, 0);
            x.slot();
        }
        due("waiting(0)", x.waiting(0), 32);
        due("waiting(7)", x.waiting(7), 32);
        due("inside(2)", x.inside(2), 64);
        for (int output = 0; output < 8; output++) {
            due("offer(2, " + output + ", 0, 65)", x.offer(2, output, 0, 65), false);
        }
        due("slot()", x.slot(), 2);
        due("inside(2), two have left in one slot", x.inside(2), 62);
        due("offer of one more", x.offer(2, 4, 0, 65), true);
    }

    private static void atMost64OfEachInput() {
        CountedSwitch x = new CountedSwitch();
        x.setOrder(0, 1);
        for (int n = 1; n <= 64; n++) {
            x.offer(0, 0, 0, 0);
            due("offer to input 1", x.offer(1, 0, 1, n), true);
            due("offer to input 7", x.offer(7, 0, 1, n), true);
            x.slot();
        }
        due("waiting(0), of two full inputs", x.waiting(0), 128);
        due("offer to input 1", x.offer(1, 0, 1, 65), false);
        due("offer to input 7", x.offer(7, 0, 1, 65), false);
        due("offer to input 0", x.offer(0, 0, 0, 65), true);
        due("first(0, 127)", x.first(0, 127), 7);
        due("first(0, 128)", x.first(0, 128), -1);
    }

    private static void intoTheMiddle() {
        CountedSwitch x = new CountedSwitch();
        x.setOrder(0, 1);
        x.offer(0, 0, 0, 0);
        x.offer(1, 0, 2, 0);
        x.offer(2, 0, 6, 0);
        x.slot();
        due("by PRIORITY", x.inputsInOrder(0), "1 2");
        x.offer(7, 0, 0, 0);
        x.offer(3, 0, 4, 0);
        x.offer(4, 0, 1, 0);
        x.offer(5, 0, 7, 0);
        x.slot();
        due("sentFrom(0)", x.sentFrom(0), 7);
        due("by PRIORITY", x.inputsInOrder(0), "4 1 3 2 5");

        CountedSwitch y = new CountedSwitch();
        y.setOrder(0, 2);
        int[] weights = {255, 128, 64, 32, 16};
        for (int group = 0; group < 5; group++) {
            y.setWeight(0, group, weights[group]);
        }
        y.offer(0, 0, 0, 0);
        y.offer(1, 0, 2, 0);
        y.offer(2, 0, 4, 0);
        y.slot();
        due("by CLOCK", y.timesInOrder(0), "1024 4096");
        y.offer(7, 0, 0, 0);
        y.offer(3, 0, 3, 0);
        y.offer(4, 0, 1, 0);
        y.offer(5, 0, 5, 0);
        y.slot();
        due("sentFrom(0)", y.sentFrom(0), 7);
        due("by CLOCK", y.inputsInOrder(0), "4 1 3 2 5");
        due("by CLOCK", y.timesInOrder(0), "768 1024 2304 4096 65792");
    }

    private static void line() {
        for (int output = 0; output < 8; output++) {
            CountedSwitch x = new CountedSwitch();
            x.offer(6, output, 0, 0);
            x.offer(4, output, 7, 0);
            x.offer(5, output, 3, 0);
            x.slot();
            due("at first, whatever the classes", x.sentFrom(output), 4);
            x.offer(0, output, 0, 0);
            x.offer(7, output, 0, 0);
            x.slot();
            due("behind all", x.inputsInOrder(output), "6 0 7");
        }
    }

    private static void priority() {
        for (int group = 0; group < 8; group++) {
            for (int other = 0; other < 8; other++) {
                CountedSwitch x = new CountedSwitch();
                x.setOrder(3, 1);
                x.offer(0, 3, 0, 0);
                x.offer(5, 3, group, 0);
                x.slot();
                x.offer(0, 3, 0, 0);
                x.offer(4, 3, other, 0);
                x.slot();
                // A cell of class 0 that waits leaves before input 0's second one.
                String want = group == 0 ? "0 4" : other < group ? "4 5" : "5 4";
                due("class " + other + " comes, class " + group + " waits", x.inputsInOrder(3), want);
            }
        }
    }

    private static void timeOnComing() {
        CountedSwitch x = new CountedSwitch();
        x.setOrder(1, 2);
        x.slots(2);
        x.offer(0, 1, 0, 0);
        x.offer(1, 1, 0, 0);
        due("time(1, 0), offered", x.time(1, 0), -1);
        x.slot();
        due("time(1, 0), by the slot in which it came", x.time(1, 0), 512 + 2 * 65536);
        x.offer(2, 1, 1, 0);
        x.slot();
        due("sentFrom(1)", x.sentFrom(1), 2);
        due("time(1, 0), it stays", x.time(1, 0), 512 + 2 * 65536);
    }

    /** A cell of class 0 comes in slot 0 and leaves; two more come later, while one of class 1 waits. */
    private static long timeOfSecond(int weight, int slotNumber) {
        CountedSwitch x = new CountedSwitch();
        x.setOrder(0, 2);
        x.setWeight(0, 0, weight);
        x.offer(0, 0, 0, 0);
        x.offer(6, 0, 1, 0);
        x.slot();
        due("the cell that waits", x.timesInOrder(0), "65536");
        // The cell of class 1 must not leave: cells of class 2 go before it.
        x.setWeight(0, 2, 255);
        for (int n = 1; n < slotNumber; n++) {
            x.offer(5, 0, 2, 0);
            x.slot();
        }
        x.offer(0, 0, 0, 0);
        x.offer(1, 0, 0, 0);
        x.slot();
        due("sentFrom(0)", x.sentFrom(0), 0);
        due("first(0, 0)", x.first(0, 0), 1);
        return x.time(0, 0);
    }

    private static void theGreaterOne() {
        due("weight 128, slot 1: the last time 512, not 256", timeOfSecond(128, 1), 512 + 2 * 512);
        due("weight 128, slot 2: both are 512", timeOfSecond(128, 2), 512 + 2 * 512);
        due("weight 128, slot 3: 768, not the last time", timeOfSecond(128, 3), 768 + 2 * 512);
        due("weight 255, slot 1: the last time 258, not 256", timeOfSecond(255, 1), 258 + 2 * 258);
        due("weight 255, slot 2: 512, not the last time", timeOfSecond(255, 2), 512 + 2 * 258);
        due("weight 100, slot 2: the last time 656, not 512", timeOfSecond(100, 2), 656 + 2 * 656);
        due("weight 100, slot 3: 768, not the last time", timeOfSecond(100, 3), 768 + 2 * 656);
        due("weight 16, slot 15: the last time 4096, not 3840", timeOfSecond(16, 15), 4096 + 2 * 4096);
        due("weight 16, slot 16: both are 4096", timeOfSecond(16, 16), 4096 + 2 * 4096);
        due("weight 16, slot 17: 4352, not the last time", timeOfSecond(16, 17), 4352 + 2 * 4096);
    }

    private static void lastTimeOfItsClassAndOutput() {
        CountedSwitch x = new CountedSwitch();
        x.setOrder(0, 2);
        x.setOrder(1, 2);
        x.offer(0, 0, 0, 0);
        x.offer(1, 0, 0, 0);
        x.offer(2, 0, 0, 0);
        x.offer(3, 0, 7, 0);
        x.offer(4, 1, 0, 0);
        x.offer(5, 1, 0, 0);
        x.slot();
        due("another class has its own", x.inputsInOrder(0), "3 1 2");
        due("another class has its own", x.timesInOrder(0), "65536 131072 196608");
        due("another output has its own", x.timesInOrder(1), "131072");
    }

    private static void upwards() {
        int[][] steps = {{1, 65536}, {2, 32768}, {3, 21846}, {4, 16384}, {5, 13108}, {127, 517}, {128, 512},
            {129, 509}, {253, 260}, {254, 259}, {255, 258}};
        for (int[] step : steps) {
            for (int output = 0; output < 8; output += 7) {
                for (int group = 0; group < 8; group += 7) {
                    CountedSwitch x = new CountedSwitch();
                    x.setOrder(output, 2);
                    x.setWeight(output, group, step[0]);
                    x.offer(0, output, group, 0);
                    x.offer(1, output, group, 0);
                    x.slot();
                    due("weight " + step[0], x.timesInOrder(output), 2 * step[1]);
                }
            }
        }
    }

    private static void lastTimeIsThat() {
        CountedSwitch x = new CountedSwitch();
        x.setOrder(0, 2);
        x.setWeight(0, 3, 3);
        x.offerFromAll(0, 3, 0);
        x.slot();
        due("each one behind the one before", x.timesInOrder(0), "43692 65538 87384 109230 131076 152922 174768");
        x.setWeight(0, 3, 255);
        x.offer(0, 0, 3, 0);
        x.slot();
        due("with another weight then", x.time(0, 6), 174768 + 258);
    }

    /** Input 3's cell waits with time 1024; input 1's comes in slot 2. */
    private static CountedSwitch withTime1024(int weightOfTheSecond) {
        CountedSwitch x = new CountedSwitch();
        x.setOrder(0, 2);
        x.setWeight(0, 0, 64);
        x.setWeight(0, 1, weightOfTheSecond);
        x.setWeight(0, 7, 255);
        x.offer(3, 0, 0, 0);
        for (int n = 0; n < 3; n++) {
            x.offer(7, 0, 7, 0);
            if (n == 2) {
                x.offer(1, 0, 1, 0);
            }
            x.slot();
            due("sentFrom(0)", x.sentFrom(0), 7);
        }
        return x;
    }

    private static void equalTimes() {
        CountedSwitch equal = withTime1024(128);
        due("times", equal.timesInOrder(0), "1024 1024");
        due("behind an equal one", equal.inputsInOrder(0), "3 1");
        CountedSwitch less = withTime1024(129);
        due("times", less.timesInOrder(0), "1021 1024");
        due("before one that is above", less.inputsInOrder(0), "1 3");
        CountedSwitch more = withTime1024(127);
        due("times", more.timesInOrder(0), "1024 1029");
        due("behind one that is below", more.inputsInOrder(0), "3 1");

        CountedSwitch x = new CountedSwitch();
        x.setOrder(0, 2);
        x.setWeight(0, 0, 255);
        x.setWeight(0, 1, 254);
        x.setWeight(0, 2, 253);
        x.offer(2, 0, 2, 0);
        x.offer(3, 0, 1, 0);
        x.offer(4, 0, 0, 0);
        x.slot();
        due("before those that are above by 1", x.sentFrom(0) + " " + x.inputsInOrder(0), "4 3 2");
        due("times", x.timesInOrder(0), "259 260");
    }

    private static void weights() {
        for (int weight = -1; weight <= 257; weight++) {
            CountedSwitch x = new CountedSwitch();
            x.setOrder(0, 2);
            due("setWeight(0, 0, " + weight + ")", x.setWeight(0, 0, weight), weight >= 1 && weight <= 255);
        }
        for (int output = 0; output < 8; output++) {
            for (int group = 0; group < 8; group++) {
                CountedSwitch x = new CountedSwitch();
                x.setOrder(output, 2);
                x.offer(0, output, group, 0);
                x.offer(1, output, group, 0);
                x.slot();
                due("at first, output " + output + ", class " + group, x.time(output, 0), 2 * 65536);
            }
        }
    }

    private static void lastTimesGo() {
        for (int group = 0; group < 8; group++) {
            CountedSwitch x = new CountedSwitch();
            x.setOrder(0, 2);
            for (int input = 0; input < 8; input++) {
                x.offer(input, 0, input, 0);
            }
            x.slots(8);
            due("waiting(0)", x.waiting(0), 0);
            x.offer(0, 0, group, 0);
            x.offer(1, 0, group, 0);
            x.slot();
            due("eight have left, class " + group, x.time(0, 0), 8 * 256 + 2 * 65536);
        }
        CountedSwitch y = new CountedSwitch();
        y.setOrder(0, 2);
        y.offer(0, 0, 0, 0);
        due("one comes and leaves", y.slot(), 1);
        y.offer(0, 0, 0, 0);
        y.offer(1, 0, 0, 0);
        y.slot();
        due("it has left in the slot in which it came", y.time(0, 0), 256 + 2 * 65536);
    }

    private static void lastTimesStayWhileOneWaits() {
        CountedSwitch x = new CountedSwitch();
        x.setOrder(0, 2);
        x.offer(0, 0, 0, 0);
        x.offer(1, 0, 0, 0);
        x.slot();
        due("waiting(0)", x.waiting(0), 1);
        x.offer(0, 0, 0, 0);
        x.slot();
        due("one waits, one comes, one leaves", x.timesInOrder(0), 3 * 65536);
        x.offer(0, 0, 0, 0);
        x.slot();
        due("and once more", x.timesInOrder(0), 4 * 65536);
        x.slot();
        due("waiting(0)", x.waiting(0), 0);
        x.slot();
        x.offer(0, 0, 0, 0);
        x.offer(1, 0, 0, 0);
        x.slot();
        due("none waited", x.timesInOrder(0), 5 * 256 + 2 * 65536);

        CountedSwitch y = new CountedSwitch();
        y.setOrder(0, 2);
        y.offer(0, 0, 0, 0);
        y.offer(1, 0, 1, 0);
        y.slot();
        y.offer(0, 0, 0, 0);
        y.slot();
        due("a waiting cell of another class is one too", y.timesInOrder(0), 2 * 65536);
    }

    private static void lastTimesGoAtThatOutputAlone() {
        CountedSwitch x = new CountedSwitch();
        x.setOrder(0, 2);
        x.setOrder(1, 2);
        x.offer(0, 0, 0, 0);
        x.offer(1, 1, 0, 0);
        x.offer(2, 1, 0, 0);
        x.slot();
        x.offer(0, 0, 0, 0);
        x.offer(3, 0, 0, 0);
        x.offer(1, 1, 0, 0);
        x.slot();
        due("output 0 had no cell", x.timesInOrder(0), 256 + 2 * 65536);
        due("output 1 had one", x.timesInOrder(1), 3 * 65536);
    }

    private static void firstSlotIsNumber0() {
        for (int before = 0; before <= 2; before++) {
            CountedSwitch x = new CountedSwitch();
            x.setOrder(0, 2);
            x.slots(before);
            x.offer(0, 0, 0, 0);
            x.offer(1, 0, 1, 0);
            x.slot();
            due("a time in the slot behind " + before + " ones", x.time(0, 0), before * 256 + 65536);
        }
    }

    private static void byInputsNumbers() {
        for (int kind = 0; kind <= 2; kind++) {
            CountedSwitch x = new CountedSwitch();
            x.setOrder(0, kind);
            for (int input = 7; input >= 0; input--) {
                x.offer(input, 0, 5, 0);
            }
            x.slot();
            due("kind " + kind + ", offered the other way", x.sentFrom(0), 0);
            due("kind " + kind + ", offered the other way", x.inputsInOrder(0), "1 2 3 4 5 6 7");
        }
    }

    private static void eachOutputSends() {
        CountedSwitch x = new CountedSwitch();
        for (int input = 0; input < 8; input++) {
            x.offer(input, 7 - input, 0, 10 + input);
        }
        due("slot() with a cell for each output", x.slot(), 8);
        for (int output = 0; output < 8; output++) {
            due("sent(" + output + ")", x.sent(output), 17 - output);
            due("waited(" + output + "), it leaves in the slot in which it comes", x.waited(output), 0);
        }
        due("slot() with none", x.slot(), 0);

        CountedSwitch y = new CountedSwitch();
        y.offer(1, 0, 0, 0);
        y.offer(2, 0, 0, 0);
        y.offer(7, 0, 0, 0);
        y.slot();
        y.offer(1, 1, 0, 0);
        y.offer(7, 1, 0, 0);
        y.slot();
        due("slot(), two cells of one input are first", y.slot(), 2);
        due("sentFrom(0)", y.sentFrom(0), 7);
        due("sentFrom(1)", y.sentFrom(1), 7);
        due("inside(7)", y.inside(7), 0);
    }

    private static void none() {
        due("NONE", EvenSwitch.NONE, -1);
    }
}
