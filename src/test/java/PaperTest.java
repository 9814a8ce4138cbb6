/** Promises 14 to 20: papers, lines. */
final class PaperTest {
    private PaperTest() {
    }

    static void runAll(Check check) {
        addPaper(check);
        addPaperWrong(check);
        countByWords(check);
        countBySigns(check);
        countByLines(check);
        linesOfNothing(check);
        linesAndBadness(check);
        leastBadness(check);
        fits(check);
        fitsWrong(check);
        ban(check);
        breaches(check);
        noSuch(check);
    }

    private static void addPaper(Check check) {
        LinageOffice office = new LinageOffice();
        check.due("14: the least of all", office.addPaper(0, 12, 1, 0, 0), 0);
        check.due("14: the most of all", office.addPaper(2, 40, 99, 999, 100), 1);
        for (int i = 2; i < 5; i++) {
            check.due("14: addPaper", office.addPaper(1, 20, 5, 10, 50), i);
        }
        check.thrown("14: 6 papers", IllegalStateException.class, () -> office.addPaper(0, 12, 1, 0, 0));
        check.thrown("14: wrong ahead of full", IllegalArgumentException.class,
            () -> office.addPaper(0, 12, 1, 0, 101));
    }

    private static void addPaperWrong(Check check) {
        LinageOffice office = new LinageOffice();
        int[][] wrong = {
            {-1, 12, 1, 0, 0}, {3, 12, 1, 0, 0}, {0, 11, 1, 0, 0}, {0, 41, 1, 0, 0}, {0, 12, 0, 0, 0},
            {0, 12, 100, 0, 0}, {0, 12, 1, -1, 0}, {0, 12, 1, 1000, 0}, {0, 12, 1, 0, -1}, {0, 12, 1, 0, 101},
            {Integer.MIN_VALUE, 12, 1, 0, 0}, {0, Integer.MAX_VALUE, 1, 0, 0}, {0, 0, 1, 0, 0},
        };
        for (int[] row : wrong) {
            check.thrown("14: " + java.util.Arrays.toString(row), IllegalArgumentException.class,
                () -> office.addPaper(row[0], row[1], row[2], row[3], row[4]));
        }
        check.due("14: a wrong paper takes no number", office.addPaper(0, 12, 1, 0, 0), 0);
    }

    private static void countByWords(Check check) {
        LinageOffice office = Desk.withKinds("fetqh");
        office.addPaper(0, 12, 1, 0, 0);
        int story = office.file(0, 0);
        check.due("15: no words", office.count(story, 0), 0);
        int[] due = {1, 2, 3, 4, 6};
        for (int i = 0; i < 5; i++) {
            office.write(story, i);
            check.due("15: by words, kind " + i, office.count(story, 0), due[i]);
        }
        office.correct(story, 0, 4);
        check.due("15: two hyphens", office.count(story, 0), 7);
    }

    private static void countBySigns(Check check) {
        LinageOffice office = new LinageOffice();
        office.addHand();
        office.addPaper(1, 12, 1, 0, 0);
        office.addWord(12, 'f', 0);
        office.addWord(3, 'h', 0);
        int story = office.file(0, 0);
        check.due("15: no words, no blanks", office.count(story, 0), 0);
        office.write(story, 0);
        check.due("15: one word", office.count(story, 0), 12);
        office.write(story, 1);
        check.due("15: a hyphen is one of its letters", office.count(story, 0), 16);
        for (int i = 2; i < 60; i++) {
            office.write(story, 0);
        }
        check.due("15: sixty words", office.count(story, 0), 59 * 12 + 3 + 59);
    }

    private static void countByLines(Check check) {
        LinageOffice office = Desk.withLetters(6, 5, 4, 11);
        office.addPaper(2, 12, 1, 0, 0);
        office.addPaper(2, 40, 1, 0, 0);
        check.due("15: by lines", office.count(0, 0), 3);
        check.due("15: by lines of another measure", office.count(0, 1), 1);
        office.file(0, 0);
        check.due("15: nothing has no lines", office.count(1, 0), 0);
    }

    private static void linesOfNothing(Check check) {
        LinageOffice office = Desk.withLetters(12);
        office.addPaper(0, 12, 1, 0, 0);
        office.file(0, 0);
        check.due("16: a full line", office.lines(0, 0), 1);
        check.due("17: the last line does not count", office.badness(0, 0), 0);
        check.due("16: nothing has no lines", office.lines(1, 0), 0);
        check.due("17: nothing has no badness", office.badness(1, 0), 0);
        check.due("18: nothing fits", office.fits(1, 0, 99), 0);
    }

    private static void lines(Check check, int lines, int badness, int measure, int... letters) {
        LinageOffice office = Desk.withLetters(letters);
        for (int rule = 0; rule < 3; rule++) {
            office.addPaper(rule, measure, 1, 0, 0);
            String told = java.util.Arrays.toString(letters) + " in " + measure + " by rule " + rule;
            check.due("16: lines of " + told, office.lines(0, rule), lines);
            check.due("17: badness of " + told, office.badness(0, rule), badness);
        }
    }

    private static void linesAndBadness(Check check) {
        lines(check, 1, 0, 12, 1);
        lines(check, 1, 0, 12, 6, 5);
        lines(check, 2, 36, 12, 6, 6);
        lines(check, 2, 121, 12, 1, 12);
        lines(check, 2, 0, 12, 12, 1);
        lines(check, 3, 0, 12, 12, 12, 12);
        lines(check, 3, 121, 12, 12, 1, 12);
        lines(check, 1, 0, 40, 12, 12, 12, 1);
        lines(check, 2, 4, 40, 12, 12, 12, 2);
        lines(check, 2, 16, 20, 8, 7, 12);
    }

    private static void leastBadness(Check check) {
        // As much in a line as goes would be 6 5 | 4 | 11, with a badness of 64.
        lines(check, 3, 36 + 4, 12, 6, 5, 4, 11);
        // As much in a line as goes would be 3 2 2 | 5 | 12, with a badness of 9 + 49.
        lines(check, 3, 36 + 16, 12, 3, 2, 2, 5, 12);
        lines(check, 3, 64 + 0, 12, 4, 12, 1);
        // The last line may be short at no cost: 5 6 | 1, not 5 | 6 1.
        lines(check, 2, 0, 12, 5, 6, 1);
        // Two words a line are 11 lines with 9 left in one of them; one word behind, 12 lines leave 2, and 9 times 1.
        lines(check, 12, 4 + 9, 12, 10, 1, 9, 2, 8, 3, 7, 4, 6, 5, 5, 6, 4, 7, 3, 8, 2, 9, 1, 1, 10, 1);
        // Two words a line leave 3 once; one word behind, a line more, they leave 2 once and 1 five times: as bad.
        lines(check, 7, 9, 12, 10, 1, 9, 2, 8, 3, 7, 4, 6, 5, 5, 3, 8, 1);
        // Ahead of the last line, two words a line leave 9 once; one word behind, with a line more, they leave 2 once,
        // 1 thirteen times and 8 once: as bad, so it is the one with fewer lines.
        lines(check, 15, 81, 13, 11, 1, 10, 2, 9, 3, 8, 4, 7, 5, 6, 6, 5, 7, 4, 8, 3, 9, 2, 10, 1, 2, 9, 3, 8, 4, 7, 5,
            12);
    }

    private static void fits(Check check) {
        LinageOffice office = Desk.withLetters(6, 5, 4, 11, 1);
        office.addPaper(0, 12, 1, 0, 0);
        int[] due = {0, 2, 3, 4, 5, 5};
        for (int i = 0; i < due.length; i++) {
            check.due("18: in lines " + i, office.fits(0, 0, i), due[i]);
        }
        check.due("18: in 99 lines", office.fits(0, 0, 99), 5);
        int[] tall = new int[30];
        java.util.Arrays.fill(tall, 12);
        LinageOffice long60 = Desk.withLetters(tall);
        long60.addPaper(1, 24, 1, 0, 0);
        for (int i = 0; i < 30; i++) {
            long60.write(0, i);
        }
        check.due("18: sixty lines", long60.fits(0, 0, 60), 60);
        check.due("18: fifty-nine lines", long60.fits(0, 0, 59), 59);
        check.due("17: sixty lines", long60.badness(0, 0), 59 * 144);
    }

    private static void fitsWrong(Check check) {
        LinageOffice office = Desk.withLetters(6, 5);
        office.addPaper(0, 12, 1, 0, 0);
        int[] wrong = {-1, 100, Integer.MIN_VALUE, Integer.MAX_VALUE};
        for (int lines : wrong) {
            check.thrown("18: lines " + lines, IllegalArgumentException.class, () -> office.fits(0, 0, lines));
        }
        check.thrown("18: story ahead of lines", IndexOutOfBoundsException.class, () -> office.fits(1, 0, 100));
        check.thrown("18: paper ahead of lines", IndexOutOfBoundsException.class, () -> office.fits(0, 1, 100));
        check.thrown("18: story -1", IndexOutOfBoundsException.class, () -> office.fits(-1, 0, 1));
        check.thrown("18: paper -1", IndexOutOfBoundsException.class, () -> office.fits(0, -1, 1));
    }

    private static void ban(Check check) {
        LinageOffice office = Desk.withKinds("fe");
        office.addPaper(0, 12, 1, 0, 0);
        office.addPaper(0, 12, 1, 0, 0);
        check.due("19: not yet", office.ban(0, 1, true), false);
        check.due("19: barred", office.ban(0, 1, true), true);
        check.due("19: another word", office.ban(0, 0, false), false);
        check.due("19: another paper", office.ban(1, 1, false), false);
        check.due("19: no more", office.ban(0, 1, false), true);
        check.due("19: not barred", office.ban(0, 1, false), false);
        check.thrown("19: paper 2", IndexOutOfBoundsException.class, () -> office.ban(2, 0, true));
        check.thrown("19: paper -1", IndexOutOfBoundsException.class, () -> office.ban(-1, 0, true));
        check.thrown("19: word 2", IndexOutOfBoundsException.class, () -> office.ban(0, 2, true));
        check.thrown("19: word -1", IndexOutOfBoundsException.class, () -> office.ban(0, -1, true));
        office.addWord(1, 'f', 0);
        check.due("19: a refused call bars nothing", office.ban(0, 2, false), false);
    }

    private static void breaches(Check check) {
        LinageOffice office = Desk.withKinds("fet");
        office.addPaper(0, 12, 1, 0, 0);
        office.addPaper(0, 12, 1, 0, 0);
        Desk.story(office, 0, 0, 1, 0, 2, 0);
        check.due("20: none", office.breaches(0, 0), 0);
        office.ban(0, 0, true);
        check.due("20: each word of the story", office.breaches(0, 0), 3);
        office.ban(0, 2, true);
        check.due("20: two words barred", office.breaches(0, 0), 4);
        check.due("20: the other paper's stylebook", office.breaches(0, 1), 0);
        office.ban(0, 0, false);
        check.due("20: one again", office.breaches(0, 0), 1);
        check.due("20: no words", office.breaches(office.file(0, 0), 0), 0);
    }

    private static void noSuch(Check check) {
        LinageOffice office = Desk.withLetters(1);
        office.addPaper(0, 12, 1, 0, 0);
        int[][] wrong = {{1, 0}, {-1, 0}, {0, 1}, {0, -1}, {20, 5}, {0, Integer.MIN_VALUE}, {Integer.MAX_VALUE, 0}};
        for (int[] row : wrong) {
            int story = row[0];
            int paper = row[1];
            String told = story + ", " + paper;
            check.thrown("15: count " + told, IndexOutOfBoundsException.class, () -> office.count(story, paper));
            check.thrown("16: lines " + told, IndexOutOfBoundsException.class, () -> office.lines(story, paper));
            check.thrown("17: badness " + told, IndexOutOfBoundsException.class, () -> office.badness(story, paper));
            check.thrown("20: breaches " + told, IndexOutOfBoundsException.class,
                () -> office.breaches(story, paper));
        }
    }
}
