import java.io.IOException;

/**
 * A test for each sentence of the document's terms and promises, with the numbers just inside and
 * just outside of what it allows. Ends with a fault if a sentence of the document has no test.
 */
public final class SentenceTests {
    public static void main(String[] args) throws IOException {
        Checks.begin();
        TermsPart.run();
        LayingPart.run();
        LogicPart.run();
        TextsPart.run();
        ActsPart.run();
        HistoryPart.run();
        ToldPart.run();
        if (!Checks.end()) {
            System.exit(1);
        }
    }
}
