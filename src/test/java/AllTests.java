/** Runs every test of the project; ends with exit code 1 if one answer is not the one that is due. */
public final class AllTests {
    private AllTests() {
    }

    public static void main(String[] args) {
        Check check = new Check();
        FaceTest.runAll(check);
        ExampleTest.runAll(check);
        StoryTest.runAll(check);
        PaperTest.runAll(check);
        SettingTest.runAll(check);
        RunTest.runAll(check);
        LikenessTest.runAll(check);
        FigureTest.runAll(check);
        SoundTest.runAll(check);
        NumberTest.runAll(check);
        LimitTest.runAll(check);
        RefusalTest.runAll(check);
        EmptyTest.runAll(check);
        HourTest.runAll(check);
        RandomRunsTest.runAll(check);
        RoomTest.runAll(check);
        System.out.println(check.passed() + " passed, " + check.failed() + " failed");
        if (check.failed() != 0) {
            System.exit(1);
        }
    }
}
