import java.util.ArrayList;
import java.util.List;
import java.util.Random;

/**
 * The switch of the brackets under 'Terms', whose inputs keep the cells: it must send the same cells
 * in the same slots as the class, which keeps them by their outputs alone.
 */
public final class MatchingTest extends SentenceTest {
    private static final int RUNS = 600;
    /** Offers to all inputs, the slot, and a question for each output. */
    private static final int CALLS_OF_A_SLOT = 8 + 1 + 8;

    public static void main(String[] args) {
        holds("What it is", "each cell leaves just when it would leave a switch whose outputs take all cells at once",
            MatchingTest::mixedRuns);
        holds("Terms", "one that comes is put in behind as many cells as there are on its output's side "
            + "that leave before it", MatchingTest::longLists);
        end();
    }

    private static final class Cell {
        final int input;
        final int output;
        final int group;
        final int tag;
        long time;

        Cell(int input, int output, int group, int tag) {
            this.input = input;
            this.output = output;
            this.group = group;
            this.tag = tag;
        }
    }

    private static final class MatchedSwitch {
        final int[] kinds = new int[8];
        final int[][] weights = new int[8][8];
        final long[][] lastTimes = new long[8][8];
        /** For each output all its cells as they leave, wherever they are kept. */
        final List<List<Cell>> orders = eightLists();
        final List<List<Cell>> inputLists = eightLists();
        final List<List<Cell>> outputSides = eightLists();
        int slotNumber = 0;

        private static List<List<Cell>> eightLists() {
            List<List<Cell>> lists = new ArrayList<>();
            for (int port = 0; port < 8; port++) {
                lists.add(new ArrayList<>());
            }
            return lists;
        }

        /** The tags that the outputs send, 0 for none. */
        int[] slot(List<Cell> offeredByInput) {
            for (Cell cell : offeredByInput) {
                come(cell);
            }
            goOver();
            int[] tags = new int[8];
            for (int output = 0; output < 8; output++) {
                tags[output] = send(output);
            }
            goOver();
            slotNumber++;
            return tags;
        }

        private void come(Cell cell) {
            if (kinds[cell.output] == 2) {
                int weight = weights[cell.output][cell.group];
                long[] last = lastTimes[cell.output];
                cell.time = Math.max(256L * slotNumber, last[cell.group]) + (int) Math.ceil(65536.0 / weight);
                last[cell.group] = cell.time;
            }
            List<Cell> order = orders.get(cell.output);
            int place = order.size();
            while (place > 0 && isBefore(cell, order.get(place - 1))) {
                place--;
            }
            order.add(place, cell);
            int leaveBefore = 0;
            for (Cell other : outputSides.get(cell.output)) {
                leaveBefore += leavesBefore(other, cell) ? 1 : 0;
            }
            List<Cell> list = inputLists.get(cell.input);
            list.add(Math.min(leaveBefore, list.size()), cell);
        }

        private boolean isBefore(Cell cell, Cell other) {
            int kind = kinds[cell.output];
            return kind == 1 ? cell.group < other.group : kind == 2 && cell.time < other.time;
        }

        private boolean leavesBefore(Cell cell, Cell other) {
            List<Cell> order = orders.get(cell.output);
            return order.indexOf(cell) < order.indexOf(other);
        }

        /** The inputs ask in the order of their lists; an output keeps the one that leaves first. */
        private void goOver() {
            Cell[] kept = new Cell[8];
            int[] asked = new int[8];
            boolean oneAsked = true;
            while (oneAsked) {
                oneAsked = false;
                for (int input = 0; input < 8; input++) {
                    List<Cell> list = inputLists.get(input);
                    if (!isMatched(kept, input) && asked[input] < list.size()) {
                        Cell cell = list.get(asked[input]++);
                        Cell rival = kept[cell.output];
                        if (rival == null || leavesBefore(cell, rival)) {
                            kept[cell.output] = cell;
                        }
                        oneAsked = true;
                    }
                }
            }
            for (Cell cell : kept) {
                if (cell != null) {
                    inputLists.get(cell.input).remove(cell);
                    outputSides.get(cell.output).add(cell);
                }
            }
        }

        private static boolean isMatched(Cell[] kept, int input) {
            for (Cell cell : kept) {
                if (cell != null && cell.input == input) {
                    return true;
                }
            }
            return false;
        }

        /** What an output sends must have gone over: a cell that an input keeps can't be sent. */
        private int send(int output) {
            Cell sent = null;
            for (Cell cell : outputSides.get(output)) {
                if (sent == null || leavesBefore(cell, sent)) {
                    sent = cell;
                }
            }
            if (sent == null) {
                return 0;
            }
            outputSides.get(output).remove(sent);
            orders.get(output).remove(sent);
            if (orders.get(output).isEmpty()) {
                lastTimes[output] = new long[8];
            }
            return sent.tag;
        }
    }

    private static void mixedRuns() {
        for (int run = 0; run < RUNS; run++) {
            Random random = new Random(run * 0x9E3779B97F4A7C15L);
            compare("run " + run, random, 1 + random.nextInt(8), 2 + random.nextInt(9));
        }
    }

    /** All inputs take a cell in each slot, for few outputs: the lists grow on both sides. */
    private static void longLists() {
        for (int run = 0; run < RUNS; run++) {
            compare("long run " + run, new Random(run * 0x9E3779B97F4A7C15L), 2 + run % 3, 10);
        }
    }

    private static void compare(String run, Random random, int outputs, int offersInTen) {
        CountedSwitch x = new CountedSwitch();
        MatchedSwitch y = new MatchedSwitch();
        setUp(x, y, random);
        int tag = 0;
        for (int n = 0; x.callsLeft() >= CALLS_OF_A_SLOT; n++) {
            List<Cell> offered = new ArrayList<>();
            for (int input = 0; input < 8; input++) {
                if (random.nextInt(10) < offersInTen) {
                    Cell cell = new Cell(input, random.nextInt(outputs), random.nextInt(8), ++tag);
                    if (x.offer(input, cell.output, cell.group, cell.tag)) {
                        offered.add(cell);
                    }
                }
            }
            x.slot();
            int[] tags = y.slot(offered);
            for (int output = 0; output < 8; output++) {
                due(run + ", slot " + n + ", sent(" + output + ")", x.sent(output), tags[output]);
            }
        }
    }

    private static void setUp(CountedSwitch x, MatchedSwitch y, Random random) {
        for (int output = 0; output < 8; output++) {
            y.kinds[output] = random.nextInt(3);
            x.setOrder(output, y.kinds[output]);
            for (int group = 0; group < 8; group++) {
                y.weights[output][group] = 1;
            }
            // One class stays at the weight that it has at first.
            for (int group = 0; group < 7 && y.kinds[output] == 2; group++) {
                y.weights[output][group] = 1 + random.nextInt(255);
                x.setWeight(output, group, y.weights[output][group]);
            }
        }
    }
}
