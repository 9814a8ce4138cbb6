/** Offices that are made ready for a test. */
final class Desk {
    private Desk() {
    }

    /** An office with a hand and a word of five letters for each kind, all of topic 0. */
    static LinageOffice withKinds(String kinds) {
        LinageOffice office = new LinageOffice();
        office.addHand();
        for (int i = 0; i < kinds.length(); i++) {
            office.addWord(5, kinds.charAt(i), 0);
        }
        return office;
    }

    /** An office with a hand, and a story 0 of facts with so many letters, each another word. */
    static LinageOffice withLetters(int... letters) {
        LinageOffice office = new LinageOffice();
        office.addHand();
        office.file(0, 0);
        for (int i = 0; i < letters.length; i++) {
            office.write(0, office.addWord(letters[i], 'f', 0));
        }
        return office;
    }

    /** Files a story of hand 0 with these words. */
    static int story(LinageOffice office, int event, int... words) {
        int story = office.file(0, event);
        for (int word : words) {
            office.write(story, word);
        }
        return story;
    }

    /** Lets hours pass, as many as it takes to come to this one. */
    static void waitTill(LinageOffice office, int hour) {
        while (office.hour() < hour) {
            office.pass(Math.min(99, hour - office.hour()));
        }
    }
}
