import java.lang.reflect.Field;
import java.lang.reflect.Member;
import java.lang.reflect.Method;
import java.lang.reflect.Modifier;
import java.util.Arrays;
import java.util.Set;
import java.util.TreeSet;

/** The public face is the document's and no more, and no call throws, whatever it is given. */
public final class FaceTest {
    private static final int[] NUMBERS = {Integer.MIN_VALUE, -256, -1, 0, 1, 2, 3, 7, 8, 9, 63, 64, 255, 256,
        65536, Integer.MAX_VALUE};

    private static final String[] METHODS = {
        "boolean setOrder(int, int)", "boolean setWeight(int, int, int)", "boolean offer(int, int, int, int)",
        "int slot()", "int slots()", "boolean hasSent(int)", "int sent(int)", "int sentFrom(int)",
        "int waited(int)", "int inside(int)", "int waiting(int)", "int first(int, int)", "long time(int, int)",
        "int leaves(int)", "void reset()"
    };

    private static int wrong = 0;

    public static void main(String[] args) {
        face();
        nothingThrows();
        fullSwitch();
        System.out.println(wrong == 0 ? "all answers are as due" : wrong + " answers are not as due");
        if (wrong != 0) {
            System.exit(1);
        }
    }

    private static void face() {
        Set<String> got = new TreeSet<>();
        Set<String> names = new TreeSet<>();
        for (Method m : EvenSwitch.class.getDeclaredMethods()) {
            if (isSeen(m)) {
                names.add(m.getName());
                String types = Arrays.toString(Arrays.stream(m.getParameterTypes()).map(Class::getName).toArray());
                got.add(m.getReturnType() + " " + m.getName() + "(" + types.substring(1, types.length() - 1) + ")");
            }
        }
        due("methods", got.toString(), new TreeSet<>(Arrays.asList(METHODS)).toString());
        for (Method m : EvenSwitch.class.getDeclaredMethods()) {
            due("a private method with a public one's name: " + m, !isSeen(m) && names.contains(m.getName()), false);
        }
        Set<String> fields = new TreeSet<>();
        for (Field f : EvenSwitch.class.getDeclaredFields()) {
            if (isSeen(f)) {
                fields.add(f.toString());
            }
            due("a static field that is not final: " + f,
                Modifier.isStatic(f.getModifiers()) && !Modifier.isFinal(f.getModifiers()), false);
        }
        due("fields", fields.toString(), "[public static final int EvenSwitch.NONE]");
        due("constructors", Arrays.toString(EvenSwitch.class.getDeclaredConstructors()), "[public EvenSwitch()]");
        due("the class", Modifier.toString(EvenSwitch.class.getModifiers()), "public final");
    }

    private static boolean isSeen(Member m) {
        return !Modifier.isPrivate(m.getModifiers()) && !m.isSynthetic();
    }

    /** All pairs of numbers, in a switch that fills; what the calls answer is not looked at here. */
    private static void nothingThrows() {
        EvenSwitch x = new EvenSwitch();
        int calls = 0;
        for (int a : NUMBERS) {
            for (int b : NUMBERS) {
                for (int c : NUMBERS) {
                    x.setOrder(a, b);
                    x.setWeight(a, b, c);
                    x.offer(a, b, c, a);
                    x.first(a, b);
                    x.time(a, b);
                    if (++calls % 5 == 0) {
                        x.slot();
                    }
                }
            }
            x.hasSent(a);
            x.sent(a);
            x.sentFrom(a);
            x.waited(a);
            x.inside(a);
            x.waiting(a);
            x.leaves(a);
            x.slots();
        }
        x.reset();
        x.slot();
    }

    /**
     * Each input to its 64 cells, all for one output: far beyond call 512, where the answers are free
     * but a throw is not.
     */
    private static void fullSwitch() {
        for (int kind = 0; kind < 3; kind++) {
            EvenSwitch x = new EvenSwitch();
            x.setOrder(0, kind);
            for (int n = 0; n < 3000; n++) {
                for (int input = 0; input < 8; input++) {
                    x.offer(input, 0, n % 8, n);
                }
                x.slot();
                x.first(0, x.waiting(0) - 1);
                x.time(0, x.waiting(0) - 1);
                x.leaves(n);
            }
        }
    }

    private static void due(String what, Object got, Object want) {
        if (!got.equals(want)) {
            wrong++;
            System.out.println(what + ": answered " + got + ", due is " + want);
        }
    }
}
