/** Each exception alone, and all that can apply together: the one that is documented first is thrown. */
final class RefusalTest {
    private static final Scene STRIKE = Scene.DESK.and(office -> office.setStrike(true));
    private static final Scene READY_STRIKE = Scene.READY.and(office -> office.setStrike(true));

    private final Check check;

    private RefusalTest(Check check) {
        this.check = check;
    }

    static void runAll(Check check) {
        RefusalTest test = new RefusalTest(check);
        test.addWord();
        test.file();
        test.fork();
        test.write();
        test.correct();
        test.placesOfNoStory();
        test.addPaper();
        test.fits();
        test.setExclusive();
        test.run();
        test.runForTwoReasons();
        test.claim();
        test.facts();
        test.notInStrike();
    }

    private static String told(String call, int... arguments) {
        return call + " " + java.util.Arrays.toString(arguments);
    }

    private static boolean isIn(int number, int least, int most) {
        return number >= least && number <= most;
    }

    private void addWord() {
        for (int i = 0; i < 2 * 2 * 5 * 5; i++) {
            boolean isFull = i % 2 == 1;
            char kind = i / 2 % 2 == 0 ? 'f' : 'x';
            int letters = new int[] {1, 12, 0, 13, -5}[i / 4 % 5];
            int topic = new int[] {0, 9, -1, 10, 1000}[i / 20];
            boolean isRight = kind == 'f' && isIn(letters, 1, 12) && isIn(topic, 0, 9);
            new Edges(check, isFull ? Scene.READY : Scene.DESK).answersOrRefused(
                told("2: full, kind, letters, topic", i % 2, kind, letters, topic),
                !isRight ? Edges.ARGUMENT : isFull ? Edges.STATE : null,
                office -> office.addWord(letters, kind, topic));
        }
    }

    private void file() {
        for (int i = 0; i < 4 * 4 * 4; i++) {
            boolean isFull = i % 2 == 1;
            boolean isStrike = i / 2 % 2 == 1;
            int hands = isFull ? 8 : 2;
            int hand = new int[] {0, hands - 1, -1, hands}[i / 4 % 4];
            int event = new int[] {0, 9, -1, 10}[i / 16];
            String told = told("4: full, strike, hand, event", i % 2, i / 2 % 2, hand, event);
            inStrike(isFull, isStrike).answersOrRefused(told,
                !isIn(hand, 0, hands - 1) ? Edges.INDEX : !isIn(event, 0, 9) ? Edges.ARGUMENT
                    : isStrike ? Edges.UNSUPPORTED : isFull ? Edges.STATE : null,
                office -> office.file(hand, event));
        }
    }

    private void fork() {
        for (int i = 0; i < 4 * 4 * 4; i++) {
            boolean isFull = i % 2 == 1;
            boolean isStrike = i / 2 % 2 == 1;
            int hands = isFull ? 8 : 2;
            int stories = isFull ? 20 : 4;
            int hand = new int[] {0, hands - 1, -1, hands}[i / 4 % 4];
            int story = new int[] {0, stories - 1, -1, stories}[i / 16];
            String told = told("5: full, strike, hand, story", i % 2, i / 2 % 2, hand, story);
            inStrike(isFull, isStrike).answersOrRefused(told,
                !isIn(hand, 0, hands - 1) || !isIn(story, 0, stories - 1) ? Edges.INDEX
                    : isStrike ? Edges.UNSUPPORTED : isFull ? Edges.STATE : null,
                office -> office.fork(hand, story));
        }
    }

    private Edges inStrike(boolean isFull, boolean isStrike) {
        return new Edges(check, isFull ? isStrike ? READY_STRIKE : Scene.READY : isStrike ? STRIKE : Scene.DESK);
    }

    private void write() {
        Scene scene = Scene.DESK.and(office -> {
            for (int i = 6; i < 60; i++) {
                office.write(0, 0);
            }
            office.fork(0, 0);
            office.run(4, 0, 1);
        });
        Edges edges = new Edges(check, scene);
        int[] stories = {1, 2, 0, 4, -1, 5};
        int[] words = {0, 5, -1, 6};
        for (int story : stories) {
            for (int word : words) {
                boolean isThere = story >= 0 && story <= 4;
                boolean didRun = story == 2 || story == 4;
                boolean isFull = story == 0 || story == 4;
                edges.answersOrRefused(told("6: story (1, 2 ran, 0 full, 4 both), word", story, word),
                    !isThere || !isIn(word, 0, 5) ? Edges.INDEX : didRun ? Edges.UNSUPPORTED
                        : isFull ? Edges.STATE : null,
                    office -> office.write(story, word));
            }
        }
    }

    private void correct() {
        Edges edges = new Edges(check, Scene.DESK);
        int[] stories = {0, 1, 2, -1, 4};
        int[] sizes = {6, 0, 3};
        for (int story : stories) {
            boolean isThere = isIn(story, 0, 3);
            int size = isThere ? sizes[story] : 3;
            int[] places = {0, size - 1, -1, size, 60};
            int[] words = {0, 5, -1, 6};
            for (int i = 0; i < places.length * words.length; i++) {
                int place = places[i / words.length];
                int word = words[i % words.length];
                edges.answersOrRefused(told("7: story (2 ran), place, word", story, place, word),
                    !isThere || !isIn(word, 0, 5) ? Edges.INDEX : !isIn(place, 0, size - 1) ? Edges.ELEMENT
                        : story == 2 ? Edges.UNSUPPORTED : null,
                    office -> office.correct(story, place, word));
            }
        }
    }

    private void placesOfNoStory() {
        Edges edges = new Edges(check, Scene.DESK);
        int[] stories = {-1, 4};
        int[] places = {-1, 0, 6, 60};
        for (int story : stories) {
            for (int place : places) {
                edges.refused(told("9: no story, place", story, place), Edges.INDEX,
                    office -> office.wordAt(story, place));
                edges.refused(told("30: no story, place", story, place), Edges.INDEX,
                    office -> office.isPadding(story, place));
            }
        }
        for (int story = 0; story < 4; story++) {
            int there = story;
            edges.refused("9: no word there, story " + story, Edges.ELEMENT, office -> office.wordAt(there, 6));
            edges.refused("30: no word there, story " + story, Edges.ELEMENT, office -> office.isPadding(there, 6));
        }
    }

    private void addPaper() {
        int[][] wrong = {{-1, 3}, {11, 41}, {0, 100}, {-1, 1000}, {-1, 101}};
        for (int which = 0; which < wrong.length; which++) {
            for (int number : wrong[which]) {
                int[] row = {2, 12, 99, 999, 100};
                row[which] = number;
                Edges desk = new Edges(check, Scene.DESK);
                Edges full = new Edges(check, Scene.READY);
                desk.refused(told("14: wrong", row), Edges.ARGUMENT,
                    office -> office.addPaper(row[0], row[1], row[2], row[3], row[4]));
                full.refused(told("14: wrong ahead of full", row), Edges.ARGUMENT,
                    office -> office.addPaper(row[0], row[1], row[2], row[3], row[4]));
            }
        }
        new Edges(check, Scene.READY).refused("14: full", Edges.STATE, office -> office.addPaper(2, 12, 99, 999, 100));
    }

    private void fits() {
        Edges edges = new Edges(check, Scene.DESK);
        int[] stories = {0, 3, -1, 4};
        int[] papers = {0, 2, -1, 3};
        int[] lines = {0, 99, -1, 100};
        for (int i = 0; i < 64; i++) {
            int story = stories[i / 16];
            int paper = papers[i / 4 % 4];
            int many = lines[i % 4];
            edges.answersOrRefused(told("18: story, paper, lines", story, paper, many),
                !isIn(story, 0, 3) || !isIn(paper, 0, 2) ? Edges.INDEX : !isIn(many, 0, 99) ? Edges.ARGUMENT : null,
                office -> office.fits(story, paper, many));
        }
    }

    private void setExclusive() {
        Edges edges = new Edges(check, Scene.DESK);
        for (int i = 0; i < 2; i++) {
            boolean is = i == 1;
            edges.refused("21: it ran, " + is, Edges.UNSUPPORTED, office -> office.setExclusive(2, is));
            edges.refused("21: no story, " + is, Edges.INDEX, office -> office.setExclusive(4, is));
            edges.answers("21: it did not run, " + is, false, office -> office.setExclusive(0, is));
        }
    }

    /** Story 0 ran in paper 0, 18 has no words, 10 has one that paper 0 bars, and 5 is exclusive and ran just now. */
    private static Scene fewRuns() {
        return Scene.READY.and(office -> {
            office.run(0, 0, 9);
            office.run(5, 0, 9);
        });
    }

    private void run() {
        int[][] reasons = {{12, 0}, {0, 0}, {18, 0}, {10, 0}, {5, 1}};
        int[] lines = {1, 99, 0, 100};
        Scene few = fewRuns();
        for (int i = 0; i < reasons.length * lines.length * 2; i++) {
            boolean isFull = i % 2 == 1;
            int[] reason = reasons[i / 2 / lines.length];
            int many = lines[i / 2 % lines.length];
            Edges edges = new Edges(check, isFull ? Scene.FULL : few);
            String told = told("22: full, lines, story, paper", i % 2, many, reason[0], reason[1]);
            edges.answersOrRefused(told, !isIn(many, 1, 99) ? Edges.ARGUMENT : reason[0] != 12 ? Edges.UNSUPPORTED
                : isFull ? Edges.STATE : null, office -> office.run(reason[0], reason[1], many));
            edges.refused(told + ", no such paper", Edges.INDEX, office -> office.run(reason[0], 5, many));
            edges.refused(told + ", paper -1", Edges.INDEX, office -> office.run(reason[0], -1, many));
            edges.refused(told + ", no such story", Edges.INDEX, office -> office.run(20, reason[1], many));
            edges.refused(told + ", story -1", Edges.INDEX, office -> office.run(-1, reason[1], many));
        }
    }

    private void runForTwoReasons() {
        Edges edges = new Edges(check, fewRuns().and(office -> {
            office.ban(0, 0, true);
            office.ban(1, 0, true);
        }));
        edges.refused("22: it ran there and has a barred word", Edges.UNSUPPORTED, office -> office.run(0, 0, 1));
        edges.refused("22: a barred word, but it ran elsewhere", Edges.UNSUPPORTED, office -> office.run(0, 1, 1));
        edges.refused("22: exclusive, with a barred word", Edges.UNSUPPORTED, office -> office.run(5, 1, 1));
        edges.refused("22: exclusive, and it ran there", Edges.UNSUPPORTED, office -> office.run(5, 0, 1));
        edges.answers("22: neither", 2, office -> office.run(0, 2, 1));
        edges.answers("22: the bars are over", 2, office -> {
            office.ban(1, 0, false);
            return office.run(0, 1, 1);
        });
    }

    private void claim() {
        Edges edges = new Edges(check, Scene.DESK);
        int[] hands = {0, 1, -1, 2};
        int[] papers = {0, 2, -1, 3};
        int[] sums = {0, 99999, -1, 100000};
        for (int i = 0; i < 64; i++) {
            int hand = hands[i / 16];
            int paper = papers[i / 4 % 4];
            int sum = sums[i % 4];
            edges.answersOrRefused(told("26: hand, paper, sum", hand, paper, sum),
                !isIn(hand, 0, 1) || !isIn(paper, 0, 2) ? Edges.INDEX : !isIn(sum, 0, 99999) ? Edges.ARGUMENT : null,
                office -> office.claim(hand, paper, sum));
        }
    }

    /** Word 6 is no fact and in no story; word 5 is a fact, and in no story either. */
    private void facts() {
        Edges edges = new Edges(check, Scene.DESK.and(office -> office.addWord(1, 'h', 0)));
        edges.answers("35: a fact", 12, office -> office.known(0));
        edges.answers("36: a fact", 0, office -> office.first(0));
        for (int i = 1; i < 8; i++) {
            int word = i;
            Class<? extends RuntimeException> want = i == 7 ? Edges.INDEX : i == 5 ? Edges.ELEMENT : Edges.UNSUPPORTED;
            edges.refused("35: word " + i, want, office -> office.known(word));
            edges.refused("36: word " + i, want, office -> office.first(word));
        }
    }

    /** A strike keeps from filing alone, and lasts till it is told to be over. */
    private void notInStrike() {
        Edges edges = new Edges(check, STRIKE);
        edges.answers("2: in a strike", 6, office -> office.addWord(1, 'f', 0));
        edges.answers("3: in a strike", 2, LinageOffice::addHand);
        edges.answers("6: in a strike", 7, office -> office.write(0, 0));
        edges.answers("7: in a strike", 1, office -> office.correct(0, 1, 0));
        edges.answers("14: in a strike", 3, office -> office.addPaper(0, 12, 1, 0, 0));
        edges.answers("21: in a strike", false, office -> office.setExclusive(0, true));
        edges.answers("22: in a strike", 1, office -> office.run(0, 0, 9));
        edges.answers("26: in a strike", 4, office -> office.claim(1, 0, 9));
        edges.answers("27: in a strike", 17, office -> office.settle(1, 0));
        Edges later = new Edges(check, STRIKE.and(office -> office.pass(99)));
        later.refused("4: a strike lasts", Edges.UNSUPPORTED, office -> office.file(0, 0));
        later.refused("5: a strike lasts", Edges.UNSUPPORTED, office -> office.fork(0, 0));
        Edges over = new Edges(check, STRIKE.and(office -> office.setStrike(false)));
        over.answers("4: a strike that is over", 4, office -> office.file(0, 0));
        over.answers("5: a strike that is over", 4, office -> office.fork(0, 0));
    }
}
