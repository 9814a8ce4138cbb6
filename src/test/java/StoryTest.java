import java.util.NoSuchElementException;

/** Promises 1 to 13: words, hands, stories. */
final class StoryTest {
    private StoryTest() {
    }

    static void runAll(Check check) {
        newObject(check);
        addWord(check);
        addHand(check);
        file(check);
        fileInOrder(check);
        fork(check);
        forkIsByItself(check);
        forkInOrder(check);
        write(check);
        correct(check);
        lengthAndWordAt(check);
        depth(check);
        strike(check);
        hours(check);
    }

    private static void newObject(Check check) {
        LinageOffice office = new LinageOffice();
        check.due("1: hour", office.hour(), 0);
        check.due("1: strike", office.setStrike(false), false);
        check.due("1: checksum", office.checksum(), 217);
        check.due("1: isSound", office.isSound(), true);
        check.thrown("1: no hand", IndexOutOfBoundsException.class, () -> office.paid(0));
        check.thrown("1: no word", IndexOutOfBoundsException.class, () -> office.known(0));
        check.thrown("1: no story", IndexOutOfBoundsException.class, () -> office.length(0));
        check.thrown("1: no run", IndexOutOfBoundsException.class, () -> office.ran(0));
        check.due("1: first word", office.addWord(1, 'f', 0), 0);
        check.due("1: first paper", office.addPaper(0, 12, 1, 0, 0), 0);
        LinageOffice other = new LinageOffice();
        check.thrown("1: objects share nothing", IndexOutOfBoundsException.class, () -> other.known(0));
    }

    private static void addWord(Check check) {
        LinageOffice office = new LinageOffice();
        String kinds = "fetqh";
        for (int i = 0; i < kinds.length(); i++) {
            check.due("2: kind " + kinds.charAt(i), office.addWord(12, kinds.charAt(i), 9), i);
        }
        char[] wrong = {'x', 'F', 'g', 'd', 0, (char) 255, (char) 65535, ' '};
        for (char kind : wrong) {
            check.thrown("2: kind " + (int) kind, IllegalArgumentException.class, () -> office.addWord(1, kind, 0));
        }
        int[] letters = {0, 13, -1, Integer.MIN_VALUE, Integer.MAX_VALUE};
        for (int many : letters) {
            check.thrown("2: letters " + many, IllegalArgumentException.class, () -> office.addWord(many, 'f', 0));
        }
        int[] topics = {-1, 10, Integer.MIN_VALUE, Integer.MAX_VALUE};
        for (int topic : topics) {
            check.thrown("2: topic " + topic, IllegalArgumentException.class, () -> office.addWord(1, 'f', topic));
        }
        for (int i = 5; i < 30; i++) {
            check.due("2: a wrong word takes no number", office.addWord(1, 'e', 0), i);
        }
        check.thrown("2: 31 words", IllegalStateException.class, () -> office.addWord(1, 'e', 0));
        check.thrown("2: wrong ahead of full", IllegalArgumentException.class, () -> office.addWord(0, 'e', 0));
        check.thrown("2: wrong kind ahead of full", IllegalArgumentException.class, () -> office.addWord(1, 'z', 0));
    }

    private static void addHand(Check check) {
        LinageOffice office = new LinageOffice();
        for (int i = 0; i < 8; i++) {
            check.due("3: addHand", office.addHand(), i);
        }
        check.thrown("3: 9 hands", IllegalStateException.class, office::addHand);
        check.due("3: the last hand", office.paid(7), 0);
        check.thrown("3: no ninth hand", IndexOutOfBoundsException.class, () -> office.paid(8));
    }

    private static void file(Check check) {
        LinageOffice office = Desk.withKinds("f");
        office.pass(7);
        for (int i = 0; i < 20; i++) {
            check.due("4: file", office.file(0, i % 10), i);
        }
        check.due("4: without words", office.length(19), 0);
        check.due("4: from none", office.depth(19), 0);
        office.write(3, 0);
        check.due("4: in the hour of now", office.known(0), 7);
        check.thrown("4: 21 stories", IllegalStateException.class, () -> office.file(0, 0));
        check.thrown("4: no such hand", IndexOutOfBoundsException.class, () -> office.file(1, 0));
        check.thrown("4: hand -1", IndexOutOfBoundsException.class, () -> office.file(-1, 0));
        check.thrown("4: no story 20", IndexOutOfBoundsException.class, () -> office.length(20));
    }

    private static void fileInOrder(Check check) {
        LinageOffice office = Desk.withKinds("f");
        for (int i = 0; i < 20; i++) {
            office.file(0, 0);
        }
        office.setStrike(true);
        check.thrown("4: hand first", IndexOutOfBoundsException.class, () -> office.file(1, 10));
        check.thrown("4: event 10", IllegalArgumentException.class, () -> office.file(0, 10));
        check.thrown("4: event -1", IllegalArgumentException.class, () -> office.file(0, -1));
        check.thrown("4: strike ahead of full", UnsupportedOperationException.class, () -> office.file(0, 9));
        check.thrown("5: strike ahead of full", UnsupportedOperationException.class, () -> office.fork(0, 0));
        office.setStrike(false);
        check.thrown("4: full", IllegalStateException.class, () -> office.file(0, 9));
        check.thrown("5: full", IllegalStateException.class, () -> office.fork(0, 0));
    }

    private static void fork(Check check) {
        LinageOffice office = Desk.withKinds("ff");
        office.addHand();
        Desk.story(office, 4, 0, 1, 1, 0);
        office.setExclusive(0, true);
        office.pass(30);
        check.due("5: fork", office.fork(1, 0), 1);
        check.due("5: its words", office.length(1), 4);
        check.due("5: its second word", office.wordAt(1, 1), 1);
        check.due("5: its last word", office.wordAt(1, 3), 0);
        check.due("5: its shingles", office.shingles(1), 2);
        check.due("5: of the same event", office.sources(4), 1);
        check.due("5: it comes from one", office.depth(1), 1);
        check.due("5: not exclusive", office.setExclusive(1, false), false);
        office.addPaper(0, 12, 10, 0, 0);
        office.run(1, 0, 9);
        check.due("5: by the hand that makes it", office.owed(0, 1), 40);
        check.due("5: not by the other hand", office.owed(0, 0), 0);
        check.due("5: a version of itself is another one", office.fork(0, 1), 2);
        check.due("5: filed in the hour of now", office.checksum(), forkSum());
    }

    private static long forkSum() {
        int[] rows = {0, 1, 1, 0, 0, 0, 1, 1, 0, 30, 0, 1, 1, 0, 30, 40, 0, 0, 30};
        long sum = 7;
        for (int row : rows) {
            sum = 31 * sum + row;
        }
        return sum;
    }

    private static void forkIsByItself(Check check) {
        LinageOffice office = Desk.withKinds("ff");
        Desk.story(office, 0, 0, 0, 0);
        office.fork(0, 0);
        office.write(0, 1);
        check.due("5: words that it has then", office.length(1), 3);
        office.correct(1, 0, 1);
        check.due("5: the other one keeps its word", office.wordAt(0, 0), 0);
        check.due("5: the other one keeps its shingles", office.shingles(0), 2);
        for (int i = 3; i < 60; i++) {
            office.write(1, 0);
        }
        office.fork(0, 1);
        check.due("5: sixty words", office.length(2), 60);
    }

    private static void forkInOrder(Check check) {
        LinageOffice office = Desk.withKinds("f");
        check.thrown("5: no story", IndexOutOfBoundsException.class, () -> office.fork(0, 0));
        office.file(0, 0);
        check.thrown("5: hand -1", IndexOutOfBoundsException.class, () -> office.fork(-1, 0));
        check.thrown("5: hand 1", IndexOutOfBoundsException.class, () -> office.fork(1, 0));
        check.thrown("5: story -1", IndexOutOfBoundsException.class, () -> office.fork(0, -1));
        office.setStrike(true);
        check.thrown("5: no such story ahead of strike", IndexOutOfBoundsException.class, () -> office.fork(0, 1));
        check.thrown("5: strike", UnsupportedOperationException.class, () -> office.fork(0, 0));
        office.setStrike(false);
        check.due("5: nothing was filed", office.fork(0, 0), 1);
    }

    private static void write(Check check) {
        LinageOffice office = Desk.withKinds("fe");
        office.file(0, 0);
        office.setStrike(true);
        for (int i = 1; i <= 60; i++) {
            check.due("6: write", office.write(0, i % 2), i);
        }
        check.thrown("6: 61 words", IllegalStateException.class, () -> office.write(0, 0));
        check.thrown("6: word 2", IndexOutOfBoundsException.class, () -> office.write(0, 2));
        check.thrown("6: word -1", IndexOutOfBoundsException.class, () -> office.write(0, -1));
        check.thrown("6: story 1", IndexOutOfBoundsException.class, () -> office.write(1, 0));
        check.thrown("6: story -1", IndexOutOfBoundsException.class, () -> office.write(-1, 0));
        check.due("6: the words", office.wordAt(0, 0) * 10 + office.wordAt(0, 59), 10);
        office.addPaper(0, 12, 1, 0, 0);
        office.run(0, 0, 1);
        check.thrown("6: ran ahead of full", UnsupportedOperationException.class, () -> office.write(0, 0));
        check.thrown("6: word ahead of ran", IndexOutOfBoundsException.class, () -> office.write(0, 2));
        office.setStrike(false);
        office.fork(0, 0);
        check.thrown("6: the version is full", IllegalStateException.class, () -> office.write(1, 0));
        check.due("6: the version did not run", office.correct(1, 0, 0), 1);
    }

    private static void correct(Check check) {
        LinageOffice office = Desk.withKinds("fff");
        Desk.story(office, 0, 0, 1, 0);
        check.due("7: correct", office.correct(0, 1, 2), 1);
        check.due("7: the new word", office.wordAt(0, 1), 2);
        check.due("7: as many words", office.length(0), 3);
        check.due("7: again", office.correct(0, 1, 2), 2);
        check.due("7: first place", office.correct(0, 0, 1), 0);
        check.thrown("7: place 3", NoSuchElementException.class, () -> office.correct(0, 3, 0));
        check.thrown("7: place -1", NoSuchElementException.class, () -> office.correct(0, -1, 0));
        check.thrown("7: word ahead of place", IndexOutOfBoundsException.class, () -> office.correct(0, 3, 3));
        check.thrown("7: word -1", IndexOutOfBoundsException.class, () -> office.correct(0, 0, -1));
        check.thrown("7: story 1", IndexOutOfBoundsException.class, () -> office.correct(1, 0, 0));
        office.addPaper(0, 12, 1, 0, 0);
        office.run(0, 0, 1);
        check.thrown("7: ran", UnsupportedOperationException.class, () -> office.correct(0, 0, 0));
        check.thrown("7: place ahead of ran", NoSuchElementException.class, () -> office.correct(0, 60, 0));
        check.thrown("7: word ahead of ran", IndexOutOfBoundsException.class, () -> office.correct(0, 0, 3));
        check.due("7: nothing changed", office.wordAt(0, 0), 1);
    }

    private static void lengthAndWordAt(Check check) {
        LinageOffice office = Desk.withKinds("fe");
        check.due("8: no words", office.length(office.file(0, 0)), 0);
        check.thrown("9: no words", NoSuchElementException.class, () -> office.wordAt(0, 0));
        office.write(0, 1);
        office.write(0, 0);
        check.due("8: two words", office.length(0), 2);
        check.due("9: first", office.wordAt(0, 0), 1);
        check.due("9: second", office.wordAt(0, 1), 0);
        check.thrown("9: third", NoSuchElementException.class, () -> office.wordAt(0, 2));
        check.thrown("9: place -1", NoSuchElementException.class, () -> office.wordAt(0, -1));
        check.thrown("9: far place", NoSuchElementException.class, () -> office.wordAt(0, 60));
        check.thrown("9: story first", IndexOutOfBoundsException.class, () -> office.wordAt(1, 2));
        check.thrown("9: story -1", IndexOutOfBoundsException.class, () -> office.wordAt(-1, 0));
        check.thrown("8: story 1", IndexOutOfBoundsException.class, () -> office.length(1));
        check.thrown("8: story -1", IndexOutOfBoundsException.class, () -> office.length(-1));
    }

    private static void depth(Check check) {
        LinageOffice office = Desk.withKinds("f");
        office.file(0, 0);
        for (int i = 0; i < 9; i++) {
            office.fork(0, i);
        }
        for (int i = 0; i < 10; i++) {
            check.due("10: a chain", office.depth(i), i);
        }
        check.due("10: beside the chain", office.depth(office.fork(0, 3)), 4);
        check.due("10: from none", office.depth(office.file(0, 0)), 0);
        for (int i = 0; i < 8; i++) {
            office.fork(0, i == 0 ? 9 : 11 + i);
        }
        check.due("10: all in a chain", office.depth(19), 17);
        check.thrown("10: story 20", IndexOutOfBoundsException.class, () -> office.depth(20));
        check.thrown("10: story -1", IndexOutOfBoundsException.class, () -> office.depth(-1));
    }

    private static void strike(Check check) {
        LinageOffice office = Desk.withKinds("f");
        check.due("11: none before", office.setStrike(true), false);
        check.due("11: one before", office.setStrike(true), true);
        check.thrown("11: nothing is filed", UnsupportedOperationException.class, () -> office.file(0, 0));
        check.due("11: it ends", office.setStrike(false), true);
        check.due("11: none again", office.setStrike(false), false);
        check.due("11: filed", office.file(0, 0), 0);
    }

    private static void hours(Check check) {
        LinageOffice office = new LinageOffice();
        check.due("12: one", office.pass(1), 1);
        check.due("12: ninety-nine", office.pass(99), 100);
        int[] wrong = {0, 100, -1, Integer.MIN_VALUE, Integer.MAX_VALUE};
        for (int hours : wrong) {
            check.thrown("12: " + hours, IllegalArgumentException.class, () -> office.pass(hours));
        }
        check.due("13: hour", office.hour(), 100);
        check.due("13: it does not pass by itself", office.hour(), 100);
        for (int i = 0; i < 400; i++) {
            office.pass(99);
        }
        check.due("13: a late hour", office.hour(), 39700);
    }
}
