import java.nio.file.Path;

/** Runs every test of the project. The arguments are the paths of the class's source, of the document and of the README. */
public final class AllTests {
    private AllTests() { }

    public static void main(String[] arguments) throws Exception {
        ChangesTest.run();
        QuestionsTest.run();
        SupposingTest.run();
        TextsTest.run();
        PastTest.run();
        FirstSentences.run();
        TermsSentences.run();
        EarsSentences.run();
        ChangesSentences.run();
        QuestionsSentences.run();
        OthersSentences.run();
        LedgerTest.run(Path.of(arguments[1]));
        RoomTest.run();
        GridTest.run();
        ModelTest.run();
        LanguageTest.run(Path.of(arguments[0]), Path.of(arguments[1]));
        ReadmeTest.run(Path.of(arguments[2]));
        System.out.println("tests of the project: " + Check.passed + " passed, " + Check.failed + " failed");
        if (Check.failed != 0) System.exit(1);
    }
}
