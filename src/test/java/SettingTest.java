/**
 * Promises 16 to 18 where they are least plain: stories of pairs of words that fill a line of 12, or nearly, so that
 * another setting, one word behind, has a line more and may have less badness; and short stories, of which all settings
 * are tried.
 */
final class SettingTest {
    private static final int MEASURE = 12;
    private static final int STORIES = 400;
    private static final int SHORT_STORIES = 300;
    private static final int MOST_SHORT = 11;

    private final LinageOffice office = new LinageOffice();
    private final PlainOffice plain = new PlainOffice();
    private long seed;

    private SettingTest(long seed) {
        this.seed = seed;
        office.addHand();
        plain.addHand();
        office.file(0, 0);
        plain.file(0, 0);
        office.addPaper(2, MEASURE, 1, 0, 0);
        plain.addPaper(2, MEASURE, 1, 0, 0);
        for (int letters = 1; letters <= 12; letters++) {
            office.addWord(letters, 'f', 0);
            plain.addWord(letters, 'f', 0);
        }
    }

    static void runAll(Check check) {
        int withMoreLines = 0;
        for (int i = 0; i < STORIES; i++) {
            SettingTest test = new SettingTest(i);
            test.writePairs();
            test.compare(check, "story " + i);
            withMoreLines += test.office.lines(0, 0) > test.fewestLines() ? 1 : 0;
        }
        check.due("there are settings with more lines than need be", withMoreLines > 5, true);
        for (int i = 0; i < SHORT_STORIES; i++) {
            new SettingTest(i).tryAll(check, 1 + i % MOST_SHORT, MEASURE + i % 9, "short story " + i);
        }
    }

    /** In a paper with this measure, and with all settings of its first words, however many. */
    private void tryAll(Check check, int size, int measure, String told) {
        int paper = office.addPaper(2, measure, 1, 0, 0);
        for (int i = 0; i < size; i++) {
            office.write(0, draw(12));
        }
        int[] linesOf = new int[size + 1];
        for (int first = 1; first <= size; first++) {
            linesOf[first] = (int) (bestOfAll(first, measure) % 1000);
        }
        long best = bestOfAll(size, measure);
        check.due("16: " + told, office.lines(0, paper), best % 1000);
        check.due("17: " + told, office.badness(0, paper), best / 1000);
        for (int lines = 0; lines <= size + 1; lines++) {
            int most = 0;
            for (int first = 1; first <= size; first++) {
                most = linesOf[first] <= lines ? first : most;
            }
            check.due("18: " + told + " in " + lines, office.fits(0, paper, lines), most);
        }
    }

    /** The least badness times 1000, and the fewest lines with it; a way has a bit for each word that ends a line. */
    private long bestOfAll(int size, int measure) {
        long best = Long.MAX_VALUE;
        for (int way = 0; way < 1 << size - 1; way++) {
            best = Math.min(best, badnessAndLines(way, size, measure));
        }
        return best;
    }

    private long badnessAndLines(int way, int size, int measure) {
        long sum = 1;
        int signs = -1;
        for (int i = 0; i < size; i++) {
            int letters = office.wordAt(0, i) + 1;
            signs += 1 + letters;
            if (signs > measure) {
                return Long.MAX_VALUE;
            }
            if (i < size - 1 && (way >> i & 1) == 1) {
                sum += 1000L * (measure - signs) * (measure - signs) + 1;
                signs = -1;
            }
        }
        return sum;
    }

    private void compare(Check check, String told) {
        check.due("16: " + told, office.lines(0, 0), plain.lines(0, 0));
        check.due("17: " + told, office.badness(0, 0), plain.badness(0, 0));
        for (int lines = 0; lines < 40; lines++) {
            check.due("18: " + told + " in " + lines, office.fits(0, 0, lines), plain.fits(0, 0, lines));
        }
    }

    private void writePairs() {
        int first = 10;
        while (office.length(0) < 58) {
            int left = draw(5) == 0 ? draw(10 - first + 2) : 0;
            int second = Math.max(11 - first - left, 1);
            write(first);
            write(second);
            int step = draw(8) == 0 ? 0 : 1;
            first = Math.min(Math.max(11 - second - step, 1), 10);
        }
    }

    private void write(int letters) {
        office.write(0, letters - 1);
        plain.write(0, letters - 1);
    }

    private int fewestLines() {
        int lines = 0;
        int left = 0;
        for (int i = 0; i < office.length(0); i++) {
            int letters = office.wordAt(0, i) + 1;
            boolean isNewLine = letters + 1 > left;
            lines += isNewLine ? 1 : 0;
            left = isNewLine ? MEASURE - letters : left - 1 - letters;
        }
        return lines;
    }

    private int draw(int end) {
        seed = seed * 6364136223846793005L + 1442695040888963407L;
        return (int) Math.floorMod(seed >>> 33, (long) end);
    }
}
