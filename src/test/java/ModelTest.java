import java.util.ArrayList;
import java.util.Comparator;
import java.util.List;
import java.util.Random;

/**
 * Mixed runs of 512 calls against a second telling of the document, which keeps no order but sorts
 * anew for each question and finds out by trial when a cell leaves.
 */
public final class ModelTest {
    private static final int RUNS = 1500;
    private static final int CALLS = 512;

    private static final class Cell {
        int input;
        int output;
        int group;
        int tag;
        int accepted;
        int came;
        int cameAs;
        long time;
    }

    private static final class Model {
        final int[] kinds = new int[8];
        final int[][] weights = new int[8][8];
        final long[][] lastTimes = new long[8][8];
        final List<Cell> offered = new ArrayList<>();
        final List<Cell> waiting = new ArrayList<>();
        final Cell[] sent = new Cell[8];
        int slots = 0;
        int accepted = 0;
        int came = 0;

        Model() {
            for (int[] row : weights) {
                java.util.Arrays.fill(row, 1);
            }
        }

        List<Cell> order(int output) {
            List<Cell> cells = new ArrayList<>();
            for (Cell c : waiting) {
                if (c.output == output) {
                    cells.add(c);
                }
            }
            Comparator<Cell> byComing = Comparator.comparingInt(c -> c.cameAs);
            Comparator<Cell> byKind = kinds[output] == 1 ? Comparator.comparingInt((Cell c) -> c.group)
                : Comparator.comparingLong((Cell c) -> c.time);
            cells.sort(kinds[output] == 0 ? byComing : byKind.thenComparing(byComing));
            return cells;
        }

        Cell cellAt(int output, int k) {
            List<Cell> cells = order(output);
            return k >= 0 && k < cells.size() ? cells.get(k) : null;
        }

        boolean setOrder(int output, int kind) {
            if (!in8(output) || kind < 0 || kind > 2 || !order(output).isEmpty()
                || offered.stream().anyMatch(c -> c.output == output)) {
                return false;
            }
            kinds[output] = kind;
            return true;
        }

        boolean setWeight(int output, int group, int weight) {
            if (!in8(output) || !in8(group) || weight < 1 || weight > 255) {
                return false;
            }
            weights[output][group] = weight;
            return true;
        }

        int inside(int input) {
            if (!in8(input)) {
                return -1;
            }
            return (int) (offered.stream().filter(c -> c.input == input).count()
                + waiting.stream().filter(c -> c.input == input).count());
        }

        boolean offer(int input, int output, int group, int tag) {
            if (!in8(input) || !in8(output) || !in8(group) || inside(input) == 64
                || offered.stream().anyMatch(c -> c.input == input)) {
                return false;
            }
            Cell c = new Cell();
            c.input = input;
            c.output = output;
            c.group = group;
            c.tag = tag;
            c.accepted = accepted++;
            offered.add(c);
            return true;
        }

        int slot() {
            offered.sort(Comparator.comparingInt(c -> c.input));
            for (Cell c : offered) {
                come(c);
            }
            offered.clear();
            int count = 0;
            for (int output = 0; output < 8; output++) {
                sent[output] = cellAt(output, 0);
                if (sent[output] != null) {
                    waiting.remove(sent[output]);
                    count++;
                }
                if (order(output).isEmpty()) {
                    lastTimes[output] = new long[8];
                }
            }
            slots++;
            return count;
        }

        void come(Cell c) {
            c.came = slots;
            c.cameAs = came++;
            if (kinds[c.output] == 2) {
                int weight = weights[c.output][c.group];
                long share = 65536 / weight;
                if (share * weight < 65536) {
                    share++;
                }
                c.time = Math.max(256L * slots, lastTimes[c.output][c.group]) + share;
                lastTimes[c.output][c.group] = c.time;
            }
            waiting.add(c);
        }

        int leaves(int tag) {
            Cell wanted = null;
            for (Cell c : waiting) {
                if (c.tag == tag && (wanted == null || c.accepted < wanted.accepted)) {
                    wanted = c;
                }
            }
            if (wanted == null) {
                return -1;
            }
            Model trial = new Model();
            System.arraycopy(kinds, 0, trial.kinds, 0, 8);
            trial.waiting.addAll(waiting);
            for (int n = 0; ; n++) {
                trial.slot();
                if (trial.sent[wanted.output] == wanted) {
                    return n;
                }
            }
        }

        void reset() {
            offered.clear();
            waiting.clear();
            for (int output = 0; output < 8; output++) {
                sent[output] = null;
                lastTimes[output] = new long[8];
            }
        }
    }

    private static boolean in8(int n) {
        return n >= 0 && n < 8;
    }

    private final Random random;
    private final EvenSwitch x = new EvenSwitch();
    private final Model model = new Model();
    /** How many outputs, classes and tags a run uses: few of them make long orders. */
    private final int outputs;
    private final int groups;
    private final int tags;
    private final int offersInTen;
    /** Some runs offer to each of three inputs in each slot, so that inputs come to their limit. */
    private final boolean crowded;
    private int turn = 0;
    private final StringBuilder told = new StringBuilder();

    private ModelTest(int run) {
        // Random's first numbers are nearly the same for seeds that lie near each other.
        random = new Random(run * 0x9E3779B97F4A7C15L);
        crowded = random.nextInt(4) == 0;
        outputs = crowded ? 1 : 1 + random.nextInt(8);
        groups = 1 + random.nextInt(8);
        tags = 1 + random.nextInt(40);
        offersInTen = 3 + random.nextInt(6);
    }

    public static void main(String[] args) {
        for (int run = 0; run < RUNS; run++) {
            ModelTest test = new ModelTest(run);
            for (int call = 0; call < CALLS; call++) {
                if (!test.oneCall(call)) {
                    System.out.println("run " + run + ", the last call is wrong:\n" + test.told);
                    System.exit(1);
                }
            }
        }
        System.out.println("all answers are as due");
    }

    private boolean oneCall(int call) {
        // Some outputs keep the order that they have at first.
        if (call < 8 && random.nextInt(3) > 0) {
            return setOrder(call, random.nextInt(3));
        }
        int choice = random.nextInt(100);
        if (crowded && choice < 98) {
            turn = (turn + 1) % 4;
            return turn == 3 ? slot() : offer(turn, 0);
        }
        if (choice < 8 * offersInTen) {
            return offer(wild(8), wild(outputs));
        }
        if (random.nextInt(3) > 0) {
            return slot();
        }
        return choice < 99 || random.nextInt(5) > 0 ? question(random.nextInt(12)) : doReset();
    }

    private boolean slot() {
        int got = x.slot();
        return same("slot()", got, model.slot());
    }

    private boolean offer(int input, int output) {
        int group = wild(groups);
        int tag = random.nextInt(tags) - 2;
        return same("offer(" + input + ", " + output + ", " + group + ", " + tag + ")",
            bit(x.offer(input, output, group, tag)), bit(model.offer(input, output, group, tag)));
    }

    private boolean setOrder(int output, int kind) {
        return same("setOrder(" + output + ", " + kind + ")",
            bit(x.setOrder(output, kind)), bit(model.setOrder(output, kind)));
    }

    private boolean setWeight(int output, int group, int weight) {
        return same("setWeight(" + output + ", " + group + ", " + weight + ")",
            bit(x.setWeight(output, group, weight)), bit(model.setWeight(output, group, weight)));
    }

    private boolean doReset() {
        x.reset();
        model.reset();
        return same("reset()", 0, 0);
    }

    private boolean question(int kind) {
        int port = wild(random.nextBoolean() ? outputs : 8);
        int k = random.nextInt(12) - 1;
        int tag = random.nextInt(tags) - 2;
        Cell sent = in8(port) ? model.sent[port] : null;
        Cell cell = in8(port) ? model.cellAt(port, k) : null;
        String of = "(" + port + ")";
        String ofBoth = "(" + port + ", " + k + ")";
        switch (kind) {
            case 0: return setOrder(port, wild(3));
            case 1: return setWeight(port, wild(groups), wild(256));
            case 2: return same("slots()", x.slots(), model.slots);
            case 3: return same("hasSent" + of, bit(x.hasSent(port)), bit(sent != null));
            case 4: return same("sent" + of, x.sent(port), sent == null ? 0 : sent.tag);
            case 5: return same("sentFrom" + of, x.sentFrom(port), sent == null ? -1 : sent.input);
            case 6: return same("waited" + of, x.waited(port), sent == null ? -1 : model.slots - 1 - sent.came);
            case 7: return same("inside" + of, x.inside(port), model.inside(port));
            case 8: return same("waiting" + of, x.waiting(port), in8(port) ? model.order(port).size() : -1);
            case 9: return same("first" + ofBoth, x.first(port, k), cell == null ? -1 : cell.input);
            case 10: return same("time" + ofBoth, x.time(port, k), cell == null ? -1 : cell.time);
            default: return same("leaves(" + tag + ")", x.leaves(tag), model.leaves(tag));
        }
    }

    /** Mostly a number from 0 to below the bound; now and then one outside. */
    private int wild(int bound) {
        switch (random.nextInt(60)) {
            case 0: return -1;
            case 1: return bound;
            case 2: return random.nextInt();
            default: return random.nextInt(bound);
        }
    }

    private static long bit(boolean b) {
        return b ? 1 : 0;
    }

    private boolean same(String call, long got, long want) {
        told.append(call).append(" answered ").append(got).append(", due is ").append(want).append('\n');
        return got == want;
    }
}
