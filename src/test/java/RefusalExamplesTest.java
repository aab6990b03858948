/** The objects that other tests have calls refused by are in the states that they are named by. */
public final class RefusalExamplesTest {
    public static void main(String[] args) {
        Refusal.checkExamples();
        Check.end();
    }
}
