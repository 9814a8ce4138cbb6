/**
 * Promises 16 to 18 where they are least plain: stories of pairs of words that fill a line of 12, or nearly, so that
 * another setting, one word behind, has a line more and may have less badness.
 */
final class SettingTest {
    private static final int MEASURE = 12;
    private static final int STORIES = 400;

    private final LinageOffice office = new LinageOffice();
    private final PlainOffice plain = new PlainOffice();
    private long seed;

    private SettingTest(long seed) {
        this.seed = seed;
        office.addHand();
        plain.addHand();
        office.file(0, 0);
        plain.file(0, 0);
        office.addPaper(2, MEASURE, 1, 0, 0);
        plain.addPaper(2, MEASURE, 1, 0, 0);
        for (int letters = 1; letters <= 12; letters++) {
            office.addWord(letters, 'f', 0);
            plain.addWord(letters, 'f', 0);
        }
    }

    static void runAll(Check check) {
        int withMoreLines = 0;
        for (int i = 0; i < STORIES; i++) {
            SettingTest test = new SettingTest(i);
            test.writePairs();
            test.compare(check, "story " + i);
            withMoreLines += test.office.lines(0, 0) > test.fewestLines() ? 1 : 0;
        }
        check.due("there are settings with more lines than need be", withMoreLines > 5, true);
    }

    private void compare(Check check, String told) {
        check.due("16: " + told, office.lines(0, 0), plain.lines(0, 0));
        check.due("17: " + told, office.badness(0, 0), plain.badness(0, 0));
        for (int lines = 0; lines < 40; lines++) {
            check.due("18: " + told + " in " + lines, office.fits(0, 0, lines), plain.fits(0, 0, lines));
        }
    }

    private void writePairs() {
        int first = 10;
        while (office.length(0) < 58) {
            int left = draw(5) == 0 ? draw(10 - first + 2) : 0;
            int second = Math.max(11 - first - left, 1);
            write(first);
            write(second);
            int step = draw(8) == 0 ? 0 : 1;
            first = Math.min(Math.max(11 - second - step, 1), 10);
        }
    }

    private void write(int letters) {
        office.write(0, letters - 1);
        plain.write(0, letters - 1);
    }

    private int fewestLines() {
        int lines = 0;
        int left = 0;
        for (int i = 0; i < office.length(0); i++) {
            int letters = office.wordAt(0, i) + 1;
            boolean isNewLine = letters + 1 > left;
            lines += isNewLine ? 1 : 0;
            left = isNewLine ? MEASURE - letters : left - 1 - letters;
        }
        return lines;
    }

    private int draw(int end) {
        seed = seed * 6364136223846793005L + 1442695040888963407L;
        return (int) Math.floorMod(seed >>> 33, (long) end);
    }
}
