/** Runs every test of the project; ends with exit code 1 if one answer is not the one that is due. */
public final class AllTests {
    private AllTests() {
    }

    public static void main(String[] args) {
        Check check = new Check();
        FaceTest.runAll(check);
        language(check);
        ExampleTest.runAll(check);
        StoryTest.runAll(check);
        PaperTest.runAll(check);
        SettingTest.runAll(check);
        RunTest.runAll(check);
        LikenessTest.runAll(check);
        FigureTest.runAll(check);
        SoundTest.runAll(check);
        NumberTest.runAll(check);
        LimitTest.runAll(check);
        RefusalTest.runAll(check);
        EmptyTest.runAll(check);
        HourTest.runAll(check);
        RandomRunsTest.runAll(check);
        RoomTest.runAll(check);
        check.eachPromiseWasAsked();
        System.out.println(check.passed() + " passed, " + check.failed() + " failed");
        if (check.failed() != 0) {
            System.exit(1);
        }
    }

    /** A java that is put together without javac can't read the source; all else is asked there too. */
    private static void language(Check check) {
        if (ModuleLayer.boot().findModule("jdk.compiler").isPresent()) {
            LanguageTest.runAll(check);
        } else {
            System.out.println("not asked: LanguageTest, this java has no compiler");
        }
    }
}
