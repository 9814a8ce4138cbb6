/** What calls answer where there is nothing: no words, no stories, no runs, a story without words, no claim. */
final class EmptyTest {
    private final Check check;

    private EmptyTest(Check check) {
        this.check = check;
    }

    static void runAll(Check check) {
        EmptyTest test = new EmptyTest(check);
        test.newObject();
        test.nothingFiled();
        test.storyWithoutWords();
        test.storyWithoutWordsInPapers();
        test.storiesWithoutWordsAreTold();
        test.noWords();
        test.noRuns();
        test.noClaim();
        test.fewWords();
    }

    private void newObject() {
        Edges edges = new Edges(check, Scene.FRESH);
        edges.answers("1: hour 0", 0, LinageOffice::hour);
        edges.answers("1: no strike", false, office -> office.setStrike(true));
        edges.answers("1: checksum", 7L * 31, LinageOffice::checksum);
        edges.answers("1: sound", true, LinageOffice::isSound);
        edges.answers("1: the first word", 0, office -> office.addWord(1, 'f', 0));
        edges.answers("1: the first hand", 0, LinageOffice::addHand);
        edges.answers("1: the first paper", 0, office -> office.addPaper(0, 12, 1, 0, 0));
        edges.refused("1: no stories", Edges.ARITHMETIC, LinageOffice::ranShare);
        edges.refused("1: no runs", Edges.ARITHMETIC, LinageOffice::meanPay);
        for (int i = 0; i < 10; i++) {
            int event = i;
            edges.answers("33: no stories, event " + i, 0, office -> office.sources(event));
            edges.answers("37: no stories, event " + i, 0, office -> office.contradictions(event));
        }
    }

    private void nothingFiled() {
        Scene scene = Scene.FRESH.and(office -> {
            office.addWord(1, 'f', 0);
            office.addHand();
            office.addPaper(0, 12, 1, 0, 0);
        });
        Edges edges = new Edges(check, scene);
        edges.refused("5: no stories", Edges.INDEX, office -> office.fork(0, 0));
        edges.refused("6: no stories", Edges.INDEX, office -> office.write(0, 0));
        edges.refused("7: no stories", Edges.INDEX, office -> office.correct(0, 0, 0));
        edges.refused("8: no stories", Edges.INDEX, office -> office.length(0));
        edges.refused("9: no stories", Edges.INDEX, office -> office.wordAt(0, 0));
        edges.refused("22: no stories", Edges.INDEX, office -> office.run(0, 0, 1));
        edges.refused("35: no stories", Edges.ELEMENT, office -> office.known(0));
        edges.refused("36: no stories", Edges.ELEMENT, office -> office.first(0));
        edges.refused("39: no stories", Edges.ARITHMETIC, LinageOffice::ranShare);
        edges.answers("4: the first story", 0, office -> office.file(0, 0));
        edges.answers("41: no stories", true, LinageOffice::isSound);
    }

    /** Story 0 has no words, and 1 is a version of it; story 2 has some. */
    private static Scene empty() {
        return Scene.FRESH.and(office -> {
            office.pass(3);
            office.addHand();
            for (int i = 0; i < 3; i++) {
                office.addWord(4, 'f', 0);
                office.addPaper(i, 12, 10, 50, 0);
            }
            office.file(0, 0);
            office.fork(0, 0);
            Desk.story(office, 0, 0, 1, 2);
        });
    }

    private void storyWithoutWords() {
        Edges edges = new Edges(check, empty());
        for (int i = 0; i < 2; i++) {
            int story = i;
            String told = " of story " + i + " without words";
            edges.answers("8: length" + told, 0, office -> office.length(story));
            edges.answers("29: padding" + told, 0, office -> office.padding(story));
            edges.answers("31: shingles" + told, 0, office -> office.shingles(story));
            edges.refused("9: first word" + told, Edges.ELEMENT, office -> office.wordAt(story, 0));
            edges.refused("7: first word" + told, Edges.ELEMENT, office -> office.correct(story, 0, 0));
            edges.refused("30: first word" + told, Edges.ELEMENT, office -> office.isPadding(story, 0));
            edges.answers("6: first word" + told, 1, office -> office.write(story, 2));
        }
        edges.answers("5: a version without words", 0, office -> office.length(office.fork(0, 1)));
        edges.answers("10: a version without words", 1, office -> office.depth(1));
    }

    private void storyWithoutWordsInPapers() {
        Edges edges = new Edges(check, empty());
        for (int i = 0; i < 3; i++) {
            int paper = i;
            String told = " without words, by rule " + i;
            edges.answers("15: count" + told, 0, office -> office.count(0, paper));
            edges.answers("16: lines" + told, 0, office -> office.lines(0, paper));
            edges.answers("17: badness" + told, 0, office -> office.badness(0, paper));
            edges.answers("18: fits" + told, 0, office -> office.fits(0, paper, 99));
            edges.answers("18: in no lines" + told, 0, office -> office.fits(0, paper, 0));
            edges.answers("18: some words in no lines, by rule " + i, 0, office -> office.fits(2, paper, 0));
            edges.answers("20: breaches" + told, 0, office -> office.breaches(0, paper));
            edges.refused("22: run" + told, Edges.UNSUPPORTED, office -> office.run(0, paper, 99));
            edges.refused("22: run of a version" + told, Edges.UNSUPPORTED, office -> office.run(1, paper, 1));
            // What was asked before of a story with words must not be left over.
            edges.answers("16: lines of others, and" + told, "2, 0",
                office -> office.lines(2, paper) + ", " + office.lines(0, paper));
            edges.answers("17: badness of others, and" + told, "9, 0",
                office -> office.badness(2, paper) + ", " + office.badness(0, paper));
        }
    }

    private void storiesWithoutWordsAreTold() {
        Edges edges = new Edges(check, empty());
        edges.answers("32: neither has any", 0, office -> office.likeness(0, 1));
        edges.answers("32: itself", 0, office -> office.likeness(0, 0));
        edges.answers("32: one has some", 0, office -> office.likeness(0, 2));
        edges.answers("32: the other has some", 0, office -> office.likeness(2, 0));
        edges.answers("34: itself", true, office -> office.areOne(0, 0));
        edges.answers("34: its version", false, office -> office.areOne(0, 1));
        edges.answers("34: another one", false, office -> office.areOne(2, 0));
        edges.answers("33: each by itself", 3, office -> office.sources(0));
        edges.answers("37: only in what has words", 1, office -> office.contradictions(0));
        edges.answers("35: the first that has words", 3, office -> office.known(0));
        edges.answers("36: the first that has words", 2, office -> office.first(0));
        edges.answers("39: none ran", 0.0f, LinageOffice::ranShare);
        edges.answers("41: sound", true, LinageOffice::isSound);
        Scene two = Scene.FRESH.and(office -> {
            office.pass(3);
            office.addHand();
            office.file(0, 0);
            office.file(0, 0);
        });
        new Edges(check, two).answers("38: hours alone", (((7 * 31 + 3) * 31 + 3) * 31L + 0) * 31 + 3,
            LinageOffice::checksum);
    }

    private void noWords() {
        Scene scene = Scene.FRESH.and(office -> {
            office.addHand();
            office.file(0, 0);
            office.addPaper(0, 12, 1, 0, 0);
        });
        Edges edges = new Edges(check, scene);
        edges.refused("6: no words", Edges.INDEX, office -> office.write(0, 0));
        edges.refused("7: no words, ahead of no place", Edges.INDEX, office -> office.correct(0, 0, 0));
        edges.refused("19: no words", Edges.INDEX, office -> office.ban(0, 0, true));
        edges.refused("35: no words", Edges.INDEX, office -> office.known(0));
        edges.refused("36: no words", Edges.INDEX, office -> office.first(0));
    }

    private void noRuns() {
        Edges edges = new Edges(check, Scene.READY);
        edges.refused("23: no runs", Edges.INDEX, office -> office.ran(0));
        edges.refused("24: no runs", Edges.INDEX, office -> office.pay(0));
        edges.refused("40: no runs", Edges.ARITHMETIC, LinageOffice::meanPay);
        edges.answers("25: no runs", 0, office -> office.owed(4, 7));
        edges.answers("27: no runs", 0, office -> office.settle(7, 4));
        edges.answers("28: no runs", 0L, office -> office.paid(7));
        edges.answers("39: no runs", 0.0f, LinageOffice::ranShare);
        edges.answers("41: no runs", true, LinageOffice::isSound);
    }

    private void noClaim() {
        Edges edges = new Edges(check, Scene.DESK);
        edges.answers("26: no claim before", 0, office -> office.claim(0, 0, 5));
        edges.answers("26: a claim of nothing is in place of an earlier one", "4, 0", office ->
            office.claim(1, 0, 0) + ", " + office.claim(1, 0, 1));
        edges.answers("26: no claim behind a settling", 0, office -> {
            office.settle(1, 0);
            return office.claim(1, 0, 5);
        });
        // Story 2 ran in paper 0: three words at 7 each are owed to hand 1, who claims 4 of them.
        edges.answers("27: a claim", "17, paid 4, owed 0", office -> settled(office, 1, 0));
        edges.answers("27: a claim of nothing", "21, paid 0, owed 0", office -> {
            office.claim(1, 0, 0);
            return settled(office, 1, 0);
        });
        edges.answers("27: a claim of all", "0, paid 21, owed 0", office -> {
            office.claim(1, 0, 21);
            return settled(office, 1, 0);
        });
        edges.answers("27: a claim of one less", "1, paid 20, owed 0", office -> {
            office.claim(1, 0, 20);
            return settled(office, 1, 0);
        });
        edges.answers("27: a claim of one more", "-1, paid 21, owed 0", office -> {
            office.claim(1, 0, 22);
            return settled(office, 1, 0);
        });
        edges.answers("27: the most claimed where nothing is owed", "-99999, paid 0, owed 0", office -> {
            office.claim(0, 2, 99999);
            return settled(office, 0, 2);
        });
        edges.answers("27: neither claimed nor owed", "0, paid 0, owed 0", office -> settled(office, 0, 2));
        edges.answers("27: settled twice", "0, paid 4, owed 0", office -> {
            office.settle(1, 0);
            return settled(office, 1, 0);
        });
    }

    private static String settled(LinageOffice office, int hand, int paper) {
        return office.settle(hand, paper) + ", paid " + office.paid(hand) + ", owed " + office.owed(paper, hand);
    }

    /** One, two and three words: the first shingle needs three. */
    private void fewWords() {
        int[] due = {0, 0, 0, 1};
        for (int size = 0; size <= 3; size++) {
            int words = size;
            Edges edges = new Edges(check, empty().and(office -> {
                for (int i = 0; i < words; i++) {
                    office.write(0, i);
                    office.write(1, i);
                }
            }));
            String told = " of " + size + " words";
            edges.answers("31: shingles" + told, due[size], office -> office.shingles(0));
            edges.answers("32: itself" + told, 100 * due[size], office -> office.likeness(0, 0));
            edges.answers("32: another one" + told, 100 * due[size], office -> office.likeness(0, 1));
            edges.answers("34: itself" + told, true, office -> office.areOne(0, 0));
            edges.answers("34: another one" + told, due[size] == 1, office -> office.areOne(0, 1));
            edges.answers("41: sound" + told, true, LinageOffice::isSound);
        }
    }
}
