import java.io.IOException;
import java.nio.file.Files;
import java.nio.file.Path;
import java.util.LinkedHashMap;
import java.util.Map;

/** A test whose parts each stand for one sentence of the document and are named by it. */
abstract class SentenceTest {
    /** Numbers just outside of 0 .. 7 on either side, and far outside. */
    static final int[] NO_PORTS = {-1, 8, -2, 9, Integer.MIN_VALUE, Integer.MAX_VALUE};

    private static final Map<String, String> PARTS = partsOfTheDocument();

    private static String name = "";
    private static int sentences = 0;
    private static int broken = 0;
    private static int wrong = 0;

    /** The sentence must stand in that part of the document word by word. */
    static void holds(String part, String sentence, Runnable test) {
        name = part + ", \"" + sentence + "\"";
        int wrongBefore = wrong;
        due("the document's own words", PARTS.getOrDefault(part, "").contains(sentence), true);
        try {
            test.run();
        } catch (RuntimeException thrown) {
            due("a throw", thrown.toString(), "none");
        }
        sentences++;
        if (wrong > wrongBefore) {
            broken++;
        } else {
            System.out.println("holds: " + name);
        }
    }

    static void end() {
        System.out.println(sentences + " sentences, " + broken + " broken");
        if (broken != 0) {
            System.exit(1);
        }
    }

    static void due(String what, Object got, Object want) {
        if (!got.toString().equals(want.toString())) {
            wrong++;
            System.out.println("BROKEN: " + name + ": " + what + " answered " + got + ", due is " + want);
        }
    }

    static boolean isOneOfEight(int number) {
        return number >= 0 && number <= 7;
    }

    private static Map<String, String> partsOfTheDocument() {
        Map<String, String> parts = new LinkedHashMap<>();
        String text;
        try {
            text = Files.readString(Path.of("../shared/DOC.md"));
        } catch (IOException e) {
            throw new IllegalStateException("the tests run where ../shared is", e);
        }
        for (String part : text.split("\n## ")) {
            String[] headAndBody = part.split("\n", 2);
            parts.put(headAndBody[0].split(":")[0].trim(), headAndBody.length > 1 ? headAndBody[1] : "");
        }
        return parts;
    }
}
