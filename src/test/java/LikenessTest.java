import java.util.NoSuchElementException;

/** Promises 29 to 37: padding, likeness, facts. */
final class LikenessTest {
    private LikenessTest() {
    }

    static void runAll(Check check) {
        padding(check);
        paddingTitles(check);
        paddingFacts(check);
        isPaddingWrong(check);
        shingles(check);
        shinglesAfterChanges(check);
        likeness(check);
        likenessOfNeighbours(check);
        likenessOfNothing(check);
        likenessWrong(check);
        sources(check);
        areOne(check);
        fiftyHundredths(check);
        fortyNineHundredths(check);
        known(check);
        first(check);
        factsWrong(check);
        factsOfLongStories(check);
        contradictions(check);
        contradictionsAtEnds(check);
    }

    private static void padding(Check check, String told, String kinds, String due) {
        LinageOffice office = Desk.withKinds(kinds);
        office.file(0, 0);
        int strikable = 0;
        for (int i = 0; i < kinds.length(); i++) {
            office.write(0, i);
        }
        for (int i = 0; i < kinds.length(); i++) {
            boolean isDue = due.charAt(i) == '-';
            strikable += isDue ? 1 : 0;
            check.due("30: " + told + " at " + i, office.isPadding(0, i), isDue);
        }
        check.due("29: " + told, office.padding(0), strikable);
    }

    private static void padding(Check check) {
        padding(check, "no words", "", "");
        padding(check, "one of each kind", "fetqh", " -   ");
        padding(check, "empty words", "eee", "---");
        padding(check, "facts that are unlike", "fff", "   ");
        padding(check, "names and hyphens", "qhqh", "    ");
    }

    private static void paddingTitles(Check check) {
        padding(check, "a title ahead of a fact", "tf", "  ");
        padding(check, "a title ahead of a name", "tq", "  ");
        padding(check, "a title ahead of a hyphen", "th", "- ");
        padding(check, "a title ahead of an empty word", "te", "--");
        padding(check, "a title ahead of a title", "ttf", "-  ");
        padding(check, "a title at the end", "ft", " -");
        padding(check, "a title not right ahead", "tef", "-- ");
        padding(check, "a title behind a fact", "fte", " --");
    }

    private static void paddingFacts(Check check) {
        LinageOffice office = Desk.withKinds("ftqh");
        Desk.story(office, 0, 1, 0, 1, 0, 2, 2, 3, 3);
        check.due("30: a fact for the first time", office.isPadding(0, 1), false);
        check.due("30: a title ahead of a fact that came earlier", office.isPadding(0, 2), false);
        check.due("30: a fact that came earlier", office.isPadding(0, 3), true);
        check.due("30: a name that came earlier", office.isPadding(0, 5), false);
        check.due("30: a hyphen that came earlier", office.isPadding(0, 7), false);
        check.due("29: one word", office.padding(0), 1);
        Desk.story(office, 0, 0, 0, 0);
        check.due("29: other stories do not matter", office.padding(1), 2);
        office.correct(1, 0, 2);
        check.due("29: after a correction", office.padding(1), 1);
        check.due("30: now it is the first", office.isPadding(1, 1), false);
    }

    private static void isPaddingWrong(Check check) {
        LinageOffice office = Desk.withKinds("e");
        Desk.story(office, 0, 0);
        check.due("30: the only word", office.isPadding(0, 0), true);
        check.thrown("30: place 1", NoSuchElementException.class, () -> office.isPadding(0, 1));
        check.thrown("30: place -1", NoSuchElementException.class, () -> office.isPadding(0, -1));
        check.thrown("30: place 60", NoSuchElementException.class, () -> office.isPadding(0, 60));
        check.thrown("30: story ahead of place", IndexOutOfBoundsException.class, () -> office.isPadding(1, 1));
        check.thrown("30: story -1", IndexOutOfBoundsException.class, () -> office.isPadding(-1, 0));
        check.thrown("29: story 1", IndexOutOfBoundsException.class, () -> office.padding(1));
        check.thrown("29: story -1", IndexOutOfBoundsException.class, () -> office.padding(-1));
    }

    private static void shingles(Check check) {
        LinageOffice office = Desk.withKinds("ffe");
        int[] words = {0, 1, 2, 0, 1, 2, 1, 0};
        int[] due = {0, 0, 1, 2, 3, 3, 4, 5};
        int story = office.file(0, 0);
        check.due("31: no words", office.shingles(story), 0);
        for (int i = 0; i < words.length; i++) {
            office.write(story, words[i]);
            check.due("31: of " + (i + 1) + " words", office.shingles(story), due[i]);
        }
        check.thrown("31: story 1", IndexOutOfBoundsException.class, () -> office.shingles(1));
        check.thrown("31: story -1", IndexOutOfBoundsException.class, () -> office.shingles(-1));
    }

    private static void shinglesAfterChanges(Check check) {
        LinageOffice office = Desk.withKinds("ffffffffffffffffffffffffffffff");
        office.file(0, 0);
        for (int i = 0; i < 60; i++) {
            office.write(0, i < 30 ? i : 59 - i);
        }
        check.due("31: fifty-eight", office.shingles(0), 58);
        for (int i = 0; i < 60; i++) {
            office.correct(0, i, 29);
        }
        check.due("31: all the same", office.shingles(0), 1);
        office.correct(0, 30, 0);
        check.due("31: one in the middle", office.shingles(0), 4);
        office.correct(0, 30, 29);
        office.correct(0, 59, 0);
        check.due("31: one at the end", office.shingles(0), 2);
    }

    private static void likeness(Check check) {
        LinageOffice office = Desk.withKinds("fffff");
        Desk.story(office, 0, 0, 1, 2, 3);
        Desk.story(office, 9, 1, 2, 3, 4);
        Desk.story(office, 0, 3, 2, 1, 0);
        Desk.story(office, 0, 0, 1);
        Desk.story(office, 0, 0, 1, 2, 0, 1, 2, 3);
        check.due("32: one of three", office.likeness(0, 1), 33);
        check.due("32: the other way round", office.likeness(1, 0), 33);
        check.due("32: the order of words counts", office.likeness(0, 2), 0);
        check.due("32: itself", office.likeness(0, 0), 100);
        check.due("32: itself, with a shingle twice", office.likeness(4, 4), 100);
        check.due("32: two of four", office.likeness(4, 0), 50);
        check.due("32: itself, without shingles", office.likeness(3, 3), 0);
        check.due("32: neither has any", office.likeness(3, office.file(0, 0)), 0);
        check.due("32: one has none", office.likeness(3, 0), 0);
        office.fork(0, 0);
        check.due("32: a version", office.likeness(6, 0), 100);
        office.write(6, 4);
        check.due("32: a version with a word more", office.likeness(6, 0), 66);
        office.correct(6, 0, 4);
        check.due("32: a version corrected", office.likeness(6, 0), 25);
        check.due("32: the corrected one and the other", office.likeness(6, 1), 66);
    }

    /** Shingles that differ in one word, and by one number there, are unlike. */
    private static void likenessOfNeighbours(Check check) {
        int[][] rows = {{0, 1, 2}, {0, 1, 3}, {0, 2, 2}, {1, 1, 2}, {1, 0, 0}, {0, 29, 29}, {0, 29, 28}, {29, 29, 29}};
        LinageOffice office = Desk.withKinds("ffffffffffffffffffffffffffffff");
        for (int[] row : rows) {
            Desk.story(office, 0, row);
        }
        for (int i = 0; i < rows.length; i++) {
            for (int k = 0; k < rows.length; k++) {
                check.due("32: neighbours " + i + ", " + k, office.likeness(i, k), i == k ? 100 : 0);
            }
        }
        for (int far = 1; far < 30; far++) {
            LinageOffice other = Desk.withKinds("ffffffffffffffffffffffffffffff");
            Desk.story(other, 0, 0, 1, 0);
            Desk.story(other, 0, 0, 0, far);
            Desk.story(other, 0, 1, 0, 0);
            Desk.story(other, 0, 0, far, 29);
            check.due("32: the second word and the last, " + far, other.likeness(0, 1), 0);
            check.due("32: the first word and the second, " + far, other.likeness(2, 3), 0);
            check.due("32: the second word and the last at once, " + far, other.likeness(0, 3), 0);
        }
        // 0 1 2, 1 2 0, 2 0 1, 0 1 3; and 0 1 3 alone, and 0 1 2 alone.
        int both = Desk.story(office, 1, 0, 1, 2, 0, 1, 3);
        check.due("32: one of four, behind a neighbour", office.likeness(both, 1), 25);
        check.due("32: one of four, the other way round", office.likeness(1, both), 25);
        check.due("32: one of four, ahead of a neighbour", office.likeness(both, 0), 25);
    }

    /** A story without shingles has none of words 0 either, and none has a shingle that it had before. */
    private static void likenessOfNothing(Check check) {
        LinageOffice office = Desk.withKinds("ff");
        office.file(0, 0);
        Desk.story(office, 0, 0, 0);
        Desk.story(office, 0, 0, 0, 0);
        Desk.story(office, 0, 0, 0, 0, 1);
        for (int none = 0; none < 2; none++) {
            for (int some = 2; some < 4; some++) {
                check.due("32: no shingles, " + none + " and " + some, office.likeness(none, some), 0);
                check.due("32: no shingles, " + some + " and " + none, office.likeness(some, none), 0);
            }
        }
        check.due("32: one of two", office.likeness(2, 3), 50);
        office.correct(3, 3, 0);
        check.due("31: a shingle less", office.shingles(3), 1);
        check.due("32: one of one", office.likeness(2, 3), 100);
        Desk.story(office, 0, 0, 0, 1);
        check.due("32: a shingle that it has no more", office.likeness(3, 4), 0);
        check.due("32: a shingle that it has no more, the other way round", office.likeness(4, 3), 0);
    }

    private static void likenessWrong(Check check) {
        LinageOffice office = Desk.withKinds("f");
        office.file(0, 0);
        int[][] wrong = {{1, 0}, {0, 1}, {-1, 0}, {0, -1}, {1, 1}, {20, 0}, {0, Integer.MAX_VALUE}};
        for (int[] row : wrong) {
            String told = row[0] + ", " + row[1];
            check.thrown("32: likeness " + told, IndexOutOfBoundsException.class,
                () -> office.likeness(row[0], row[1]));
            check.thrown("34: areOne " + told, IndexOutOfBoundsException.class, () -> office.areOne(row[0], row[1]));
        }
    }

    private static void sources(Check check) {
        LinageOffice office = Desk.withKinds("ffffffff");
        for (int event = 0; event < 10; event++) {
            check.due("33: no stories", office.sources(event), 0);
        }
        Desk.story(office, 3, 0, 1, 2, 3, 4, 5);
        check.due("33: one story", office.sources(3), 1);
        Desk.story(office, 3, 0, 1);
        Desk.story(office, 3, 0, 1);
        check.due("33: stories without shingles", office.sources(3), 3);
        Desk.story(office, 4, 0, 1, 2, 3, 4, 5);
        check.due("33: another event", office.sources(3), 3);
        check.due("33: the other event", office.sources(4), 1);
        office.fork(0, 0);
        check.due("33: a version that is alike", office.sources(3), 3);
        office.correct(4, 2, 7);
        check.due("33: a version that is no longer", office.sources(3), 4);
        int[] wrong = {-1, 10, Integer.MIN_VALUE, Integer.MAX_VALUE};
        for (int event : wrong) {
            check.thrown("33: event " + event, IllegalArgumentException.class, () -> office.sources(event));
            check.thrown("37: event " + event, IllegalArgumentException.class, () -> office.contradictions(event));
        }
    }

    private static void areOne(Check check) {
        LinageOffice office = Desk.withKinds("ffffffffff");
        // Each has four shingles and shares three with the next one: 3 of 5 is alike, 2 of 6 is not.
        Desk.story(office, 1, 2, 3, 4, 5, 6, 7);
        Desk.story(office, 1, 0, 1, 2, 3, 4, 5);
        Desk.story(office, 1, 1, 2, 3, 4, 5, 6);
        Desk.story(office, 1, 9, 9, 9);
        Desk.story(office, 2, 2, 3, 4, 5, 6, 7);
        check.due("32: far ends", office.likeness(0, 1), 33);
        check.due("34: next to each other", office.areOne(1, 2), true);
        check.due("34: joined by a row", office.areOne(0, 1), true);
        check.due("34: joined the other way round", office.areOne(1, 0), true);
        check.due("34: not joined", office.areOne(0, 3), false);
        check.due("34: unlike events", office.areOne(0, 4), false);
        check.due("32: though they are alike", office.likeness(0, 4), 100);
        check.due("34: itself, without words", office.areOne(office.file(0, 1), 5), true);
        check.due("34: without words and others", office.areOne(5, 0), false);
        check.due("33: as three", office.sources(1), 3);
        office.correct(2, 3, 8);
        check.due("34: the row is broken", office.areOne(0, 1), false);
        check.due("33: as five", office.sources(1), 5);
        office.correct(0, 0, 0);
        check.due("34: itself", office.areOne(0, 0), true);
    }

    private static void fiftyHundredths(Check check) {
        LinageOffice office = Desk.withKinds("ffffff");
        Desk.story(office, 0, 0, 1, 2);
        Desk.story(office, 0, 0, 1, 2, 3);
        Desk.story(office, 1, 0, 1, 2, 3, 4, 5, 5);
        Desk.story(office, 1, 0, 1, 2, 3, 4, 0, 0);
        check.due("32: one of two", office.likeness(0, 1), 50);
        check.due("34: fifty is enough", office.areOne(0, 1), true);
        check.due("33: one source", office.sources(0), 1);
        check.due("32: three of seven", office.likeness(2, 3), 42);
        check.due("34: less is not", office.areOne(2, 3), false);
        check.due("33: two sources", office.sources(1), 2);
    }

    private static void fortyNineHundredths(Check check) {
        LinageOffice office = Desk.withKinds("ffffffffffffffffffffffffffffff");
        for (int story = 0; story < 2; story++) {
            office.file(0, 0);
            for (int i = 0; i < 27; i++) {
                office.write(story, i);
            }
            for (int i = 0; i < 13; i++) {
                office.write(story, 27 + story - 2 * i);
            }
        }
        check.due("32: 25 of 51", office.likeness(0, 1), 49);
        check.due("34: not enough", office.areOne(0, 1), false);
        check.due("33: not enough", office.sources(0), 2);
    }

    private static void known(Check check) {
        LinageOffice office = Desk.withKinds("ff");
        office.pass(2);
        Desk.story(office, 5);
        office.pass(2);
        Desk.story(office, 5, 0);
        office.pass(2);
        check.due("35: the hour of filing", office.known(0), 4);
        check.due("36: the only one", office.first(0), 1);
        office.write(0, 0);
        check.due("35: of a story that has it by now", office.known(0), 2);
        check.due("36: the earlier one", office.first(0), 0);
        office.correct(0, 0, 1);
        check.due("35: no longer", office.known(0), 4);
        check.due("36: no longer", office.first(0), 1);
        office.correct(1, 0, 1);
        check.thrown("35: no story has it any more", NoSuchElementException.class, () -> office.known(0));
        check.thrown("36: no story has it any more", NoSuchElementException.class, () -> office.first(0));
    }

    private static void first(Check check) {
        LinageOffice office = Desk.withKinds("ff");
        Desk.story(office, 0, 1, 1);
        Desk.story(office, 8, 1, 0);
        Desk.story(office, 3, 0, 1);
        office.pass(1);
        office.fork(0, 1);
        check.due("36: the lowest number of one hour", office.first(0), 1);
        check.due("36: of all events", office.first(1), 0);
        check.due("35: of all events", office.known(0), 0);
    }

    private static void factsWrong(Check check) {
        LinageOffice office = Desk.withKinds("ffetqh");
        Desk.story(office, 0, 0, 2, 3, 4, 5);
        check.thrown("35: no story has it", NoSuchElementException.class, () -> office.known(1));
        check.thrown("36: no story has it", NoSuchElementException.class, () -> office.first(1));
        for (int word = 2; word < 6; word++) {
            int none = word;
            check.thrown("35: no fact " + word, UnsupportedOperationException.class, () -> office.known(none));
            check.thrown("36: no fact " + word, UnsupportedOperationException.class, () -> office.first(none));
        }
        int[] wrong = {6, -1, 30, Integer.MIN_VALUE, Integer.MAX_VALUE};
        for (int word : wrong) {
            check.thrown("35: word " + word, IndexOutOfBoundsException.class, () -> office.known(word));
            check.thrown("36: word " + word, IndexOutOfBoundsException.class, () -> office.first(word));
        }
        LinageOffice empty = Desk.withKinds("e");
        check.thrown("35: no fact ahead of no story", UnsupportedOperationException.class, () -> empty.known(0));
        check.thrown("36: no fact ahead of no story", UnsupportedOperationException.class, () -> empty.first(0));
    }

    /** Sixty words, and the fact the first of them, the last of them, or none. */
    private static void factsOfLongStories(Check check) {
        LinageOffice office = Desk.withKinds("fffe");
        office.file(0, 0);
        for (int i = 0; i < 60; i++) {
            office.write(0, i == 0 ? 0 : i == 59 ? 1 : 3);
        }
        check.due("36: the first of sixty", office.first(0), 0);
        check.due("36: the last of sixty", office.first(1), 0);
        check.due("35: the first of sixty", office.known(0), 0);
        check.due("35: the last of sixty", office.known(1), 0);
        check.thrown("36: none of sixty", NoSuchElementException.class, () -> office.first(2));
        check.thrown("35: none of sixty", NoSuchElementException.class, () -> office.known(2));
        check.due("37: the first and the last of sixty", office.contradictions(0), 1);
    }

    private static void contradictionsAtEnds(Check check) {
        LinageOffice office = Desk.withKinds("ff");
        Desk.story(office, 3, 0);
        check.due("37: one fact", office.contradictions(3), 0);
        Desk.story(office, 3, 1);
        check.due("37: the only words of two stories", office.contradictions(3), 1);
        Desk.story(office, 4, 0, 1);
        check.due("37: two words of one story", office.contradictions(4), 1);
        Desk.story(office, 5, 1, 1);
        check.due("37: one fact twice", office.contradictions(5), 0);
    }

    private static void contradictions(Check check) {
        LinageOffice office = new LinageOffice();
        office.addHand();
        for (int i = 0; i < 20; i++) {
            office.addWord(1, 'f', i % 10);
        }
        office.addWord(1, 'e', 0);
        office.addWord(1, 'q', 0);
        Desk.story(office, 7, 0, 0, 1, 20, 21);
        Desk.story(office, 7, 0, 20);
        Desk.story(office, 6, 10, 19);
        check.due("37: like facts and no facts", office.contradictions(7), 0);
        check.due("37: unlike topics", office.contradictions(6), 0);
        check.due("37: no stories", office.contradictions(5), 0);
        office.write(0, 10);
        check.due("37: in one story", office.contradictions(7), 1);
        office.write(1, 11);
        check.due("37: in two stories", office.contradictions(7), 2);
        check.due("37: not of another event", office.contradictions(6), 0);
        office.write(2, 9);
        check.due("37: the last topic", office.contradictions(6), 1);
        for (int i = 0; i < 20; i++) {
            office.write(2, i);
        }
        check.due("37: all topics", office.contradictions(6), 10);
        office.correct(0, 5, 0);
        check.due("37: till it is corrected", office.contradictions(7), 1);
    }
}
