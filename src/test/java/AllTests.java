import java.nio.file.Path;

/** Runs every test of the project. The one argument is the path of the class's source. */
public final class AllTests {
    private AllTests() { }

    public static void main(String[] arguments) throws Exception {
        ChangesTest.run();
        QuestionsTest.run();
        SupposingTest.run();
        TextsTest.run();
        PastTest.run();
        RoomTest.run();
        ModelTest.run();
        LanguageTest.run(Path.of(arguments[0]));
        System.out.println("tests of the project: " + Check.passed + " passed, " + Check.failed + " failed");
        if (Check.failed != 0) System.exit(1);
    }
}
