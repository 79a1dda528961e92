import java.util.Arrays;

/**
 * A switch of eight inputs and eight outputs that moves cells slot by slot.
 *
 * <p>Only the outputs' orders decide when a cell leaves, so they are all that is kept: the matching
 * by which inputs would hand cells over to the outputs' side shows in no answer.
 */
public final class EvenSwitch {
    public static final int NONE = -1;

    private static final int PORTS = 8;
    private static final int CLASSES = 8;
    private static final int INPUT_LIMIT = 64;
    private static final int GREATEST_WEIGHT = 255;

    private static final int LINE = 0;
    private static final int PRIORITY = 1;
    private static final int CLOCK = 2;

    private static final long TIME_OF_A_SLOT = 256L;
    private static final int TIME_AT_WEIGHT_ONE = 65536;

    private final Input[] inputs;
    private final Output[] outputs;
    private int slotNumber;
    private long acceptedCells;

    public EvenSwitch() {
        inputs = new Input[PORTS];
        outputs = new Output[PORTS];
        for (int port = 0; port < PORTS; port++) {
            inputs[port] = new Input();
            outputs[port] = new Output();
        }
    }

    public boolean setOrder(int output, int kind) {
        if (!isPort(output) || kind < LINE || kind > CLOCK) {
            return false;
        }
        if (outputs[output].length > 0 || isOfferedFor(output)) {
            return false;
        }
        outputs[output].kind = kind;
        return true;
    }

    public boolean setWeight(int output, int group, int weight) {
        if (!isPort(output) || !isClass(group) || weight < 1 || weight > GREATEST_WEIGHT) {
            return false;
        }
        outputs[output].steps[group] = (TIME_AT_WEIGHT_ONE + weight - 1) / weight;
        return true;
    }

    public boolean offer(int input, int output, int group, int tag) {
        if (!isPort(input) || !isPort(output) || !isClass(group)) {
            return false;
        }
        Input taker = inputs[input];
        if (taker.offered != null || taker.held >= INPUT_LIMIT) {
            return false;
        }
        taker.offered = new Cell(input, output, group, tag, acceptedCells);
        taker.held++;
        acceptedCells++;
        return true;
    }

    public int slot() {
        takeOfferedCells();
        int count = sendFirstCells();
        slotNumber++;
        return count;
    }

    public int slots() {
        return slotNumber;
    }

    public boolean hasSent(int output) {
        return latestSent(output) != null;
    }

    public int sent(int output) {
        Cell cell = latestSent(output);
        return cell == null ? 0 : cell.tag;
    }

    public int sentFrom(int output) {
        Cell cell = latestSent(output);
        return cell == null ? NONE : cell.input;
    }

    public int waited(int output) {
        Cell cell = latestSent(output);
        // The latest slot's number is one below the number of slots.
        return cell == null ? NONE : slotNumber - 1 - cell.cameInSlot;
    }

    public int inside(int input) {
        return isPort(input) ? inputs[input].held : NONE;
    }

    public int waiting(int output) {
        return isPort(output) ? outputs[output].length : NONE;
    }

    public int first(int output, int k) {
        Cell cell = cellInOrder(output, k);
        return cell == null ? NONE : cell.input;
    }

    public long time(int output, int k) {
        Cell cell = cellInOrder(output, k);
        return cell == null ? NONE : cell.time;
    }

    public int leaves(int tag) {
        Cell earliest = null;
        int answer = NONE;
        for (int output = 0; output < PORTS; output++) {
            int place = 0;
            for (Cell cell = outputs[output].head; cell != null; cell = cell.next) {
                if (cell.tag == tag && (earliest == null || cell.serial < earliest.serial)) {
                    earliest = cell;
                    answer = place;
                }
                place++;
            }
        }
        return answer;
    }

    public void reset() {
        for (int port = 0; port < PORTS; port++) {
            inputs[port].dropCells();
            outputs[port].dropCells();
        }
    }

    private static boolean isPort(int number) {
        return number >= 0 && number < PORTS;
    }

    private static boolean isClass(int group) {
        return group >= 0 && group < CLASSES;
    }

    private boolean isOfferedFor(int output) {
        for (int input = 0; input < PORTS; input++) {
            Cell cell = inputs[input].offered;
            if (cell != null && cell.output == output) {
                return true;
            }
        }
        return false;
    }

    private void takeOfferedCells() {
        for (int input = 0; input < PORTS; input++) {
            Cell cell = inputs[input].offered;
            if (cell != null) {
                inputs[input].offered = null;
                outputs[cell.output].admit(cell, slotNumber);
            }
        }
    }

    private int sendFirstCells() {
        int count = 0;
        for (int output = 0; output < PORTS; output++) {
            Cell cell = outputs[output].sendHead();
            if (cell != null) {
                inputs[cell.input].held--;
                count++;
            }
        }
        return count;
    }

    private Cell latestSent(int output) {
        return isPort(output) ? outputs[output].latest : null;
    }

    private Cell cellInOrder(int output, int k) {
        if (!isPort(output) || k < 0 || k >= outputs[output].length) {
            return null;
        }
        Cell cell = outputs[output].head;
        for (int place = 0; place < k && cell != null; place++) {
            cell = cell.next;
        }
        return cell;
    }

    /** A cell from its offer on; its input, output and class were tested when it was offered. */
    private static final class Cell {
        final int input;
        final int output;
        final int group;
        final int tag;
        /** Cells come by their inputs' numbers, so the order of acceptance must be kept apart. */
        final long serial;
        int cameInSlot;
        /** Stays 0 where the order is no CLOCK. */
        long time;
        Cell next;

        Cell(int input, int output, int group, int tag, long serial) {
            this.input = input;
            this.output = output;
            this.group = group;
            this.tag = tag;
            this.serial = serial;
        }
    }

    private static final class Input {
        Cell offered;
        /** Counts the offered cell too. */
        int held;

        void dropCells() {
            offered = null;
            held = 0;
        }
    }

    private static final class Output {
        int kind = LINE;
        /** What a cell's time lies behind its start, by class; kept in place of the weights. */
        final int[] steps = new int[CLASSES];
        final long[] lastTimes = new long[CLASSES];
        Cell head;
        int length;
        /** The cell sent in the latest slot, or null. */
        Cell latest;

        Output() {
            Arrays.fill(steps, TIME_AT_WEIGHT_ONE);
        }

        void admit(Cell cell, int slotNumber) {
            cell.cameInSlot = slotNumber;
            if (kind == CLOCK) {
                stamp(cell, slotNumber);
            }
            putInOrder(cell);
        }

        private void stamp(Cell cell, int slotNumber) {
            long start = Math.max(TIME_OF_A_SLOT * slotNumber, lastTimes[cell.group]);
            cell.time = start + steps[cell.group];
            lastTimes[cell.group] = cell.time;
        }

        private void putInOrder(Cell cell) {
            Cell ahead = null;
            Cell behind = head;
            while (behind != null && !isBefore(cell, behind)) {
                ahead = behind;
                behind = behind.next;
            }
            cell.next = behind;
            if (ahead == null) {
                head = cell;
            } else {
                ahead.next = cell;
            }
            length++;
        }

        private boolean isBefore(Cell cell, Cell other) {
            switch (kind) {
                case PRIORITY:
                    return cell.group < other.group;
                case CLOCK:
                    return cell.time < other.time;
                default:
                    return false;
            }
        }

        Cell sendHead() {
            latest = head;
            if (latest != null) {
                head = latest.next;
                latest.next = null;
                length--;
                if (head == null) {
                    forgetTimes();
                }
            }
            return latest;
        }

        void dropCells() {
            head = null;
            length = 0;
            latest = null;
            forgetTimes();
        }

        private void forgetTimes() {
            Arrays.fill(lastTimes, 0L);
        }
    }
}
