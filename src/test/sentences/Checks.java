import java.io.IOException;
import java.util.Objects;

/** Compares answers with those that are due, and tells with each fault what sentence is broken. */
final class Checks {
    private static Document document;
    private static String sentence = "";
    private static int wrong = 0;
    private static int compared = 0;

    private Checks() {
    }

    static void begin() throws IOException {
        document = new Document();
    }

    /** Says which words of a section the comparisons that follow hold. */
    static void holds(String section, String... words) {
        sentence = section + ": " + words[0];
        for (String some : words) {
            if (!document.hold(section, some)) {
                fault("the document doesn't say \"" + some + "\" in " + section);
            }
        }
    }

    static void due(String call, Object got, Object want) {
        compared++;
        if (!Objects.equals(got, want)) {
            fault(call + " answered " + got + ", due is " + want);
        }
    }

    static void dueNotBelow(String call, int got, int least) {
        compared++;
        if (got < least) {
            fault(call + " answered " + got + ", due is at least " + least);
        }
    }

    private static void fault(String what) {
        wrong++;
        if (wrong <= 100) {
            System.out.println("[" + sentence + "] " + what);
        }
    }

    /** Ends the tests: true if all is as due, and each word of the document is held. */
    static boolean end() {
        for (String words : document.notHeld()) {
            wrong++;
            System.out.println("no test holds " + words);
        }
        System.out.println(compared + " answers were compared, " + wrong + " things are not as due");
        return wrong == 0;
    }
}
