/** Each number of each call: at its least and its most, and one below, one above and the widest, which are refused. */
final class NumberTest {
    // Of all words, twice, as in story 19 of FULL; worked out by another program.
    private static final int LINES_OF_12 = 41;
    private static final int BADNESS_OF_12 = 445;
    private static final int LINES_OF_40 = 11;
    private static final int BADNESS_OF_40 = 244;

    private final Check check;
    private final Edges fresh;
    private final Edges desk;
    private final Edges ready;
    private final Edges full;

    private NumberTest(Check check) {
        this.check = check;
        fresh = new Edges(check, Scene.FRESH);
        desk = new Edges(check, Scene.DESK);
        ready = new Edges(check, Scene.READY);
        full = new Edges(check, Scene.FULL);
    }

    static void runAll(Check check) {
        NumberTest test = new NumberTest(check);
        test.kinds();
        test.ranges();
        test.rangesOfPapers();
        test.hands();
        test.storiesThatChange();
        test.storiesThatAreTold();
        test.storiesInPapers();
        test.places();
        test.words();
        test.papers();
        test.runs();
        test.noSuchHand();
        test.noSuchStory();
        test.noSuchStoryForAPaper();
        test.noSuchWord();
        test.noSuchPaper();
        test.noSuchRun();
    }

    private void kinds() {
        String kinds = "efhqt";
        for (char kind : kinds.toCharArray()) {
            fresh.answers("2: kind " + kind, 0, office -> office.addWord(1, kind, 0));
        }
        for (int sign = 0; sign < 256; sign++) {
            char kind = (char) sign;
            if (kinds.indexOf(kind) < 0) {
                fresh.refused("2: kind " + sign, Edges.ARGUMENT, office -> office.addWord(1, kind, 0));
            }
        }
        // Their last eight bits are those of 'f'.
        fresh.refused("2: kind " + 0x166, Edges.ARGUMENT, office -> office.addWord(1, (char) 0x166, 0));
        fresh.refused("2: kind " + 0xff66, Edges.ARGUMENT, office -> office.addWord(1, (char) 0xff66, 0));
        fresh.refused("2: kind " + 0xffff, Edges.ARGUMENT, office -> office.addWord(1, (char) 0xffff, 0));
        desk.refused("2: kind x", Edges.ARGUMENT, office -> office.addWord(1, 'x', 0));
    }

    private void ranges() {
        desk.number("2: letters", Edges.ARGUMENT, 1, 1, 12, 12,
            (office, n) -> signs(office, office.addWord(n, 'f', 0)));
        desk.number("2: topic", Edges.ARGUMENT, 0, "contradicts word 0", 9, "contradicts no word",
            (office, n) -> contradicts(office, office.addWord(1, 'f', n)));
        desk.number("4: event", Edges.ARGUMENT, 0, 3, 9, 1, (office, n) -> {
            office.file(0, n);
            return office.sources(n);
        });
        desk.number("12: hours", Edges.ARGUMENT, 1, 13, 99, 111, LinageOffice::pass);
        ready.number("18: lines", Edges.ARGUMENT, 0, 0, 99, 59, (office, n) -> office.fits(19, 1, n));
        ready.number("22: lines", Edges.ARGUMENT, 1, 5, 99, 59, (office, n) -> office.ran(office.run(19, 1, n)));
        desk.number("26: sum", Edges.ARGUMENT, 0, "4 before, 0 now", 99999, "4 before, 99999 now",
            (office, n) -> office.claim(1, 0, n) + " before, " + office.claim(1, 0, 5) + " now");
        desk.number("33: event", Edges.ARGUMENT, 0, 2, 9, 0, LinageOffice::sources);
        full.number("33: event of many", Edges.ARGUMENT, 0, 2, 9, 1, LinageOffice::sources);
        full.number("37: event", Edges.ARGUMENT, 0, 1, 9, 0, LinageOffice::contradictions);
    }

    private static int signs(LinageOffice office, int word) {
        office.write(1, word);
        return office.count(1, 1);
    }

    private static String contradicts(LinageOffice office, int word) {
        int before = office.contradictions(0);
        office.write(0, word);
        return office.contradictions(0) > before ? "contradicts word 0" : "contradicts no word";
    }

    private void rangesOfPapers() {
        desk.number("14: rule", Edges.ARGUMENT, 0, 7, 2, 3,
            (office, n) -> office.count(0, office.addPaper(n, 12, 1, 0, 0)));
        desk.number("14: measure", Edges.ARGUMENT, 12, 3, 40, 1,
            (office, n) -> office.lines(0, office.addPaper(0, n, 1, 0, 0)));
        desk.number("14: rate", Edges.ARGUMENT, 1, 7, 99, 693, (office, n) -> payOfNew(office, n, 0, 0));
        desk.number("14: least pay", Edges.ARGUMENT, 0, 7, 999, 999, (office, n) -> payOfNew(office, 1, n, 0));
        Edges night = new Edges(check, Scene.DESK.and(office -> office.pass(10)));
        night.number("14: extra", Edges.ARGUMENT, 0, 70, 100, 140, (office, n) -> payOfNew(office, 10, 0, n));
    }

    private static int payOfNew(LinageOffice office, int rate, int least, int extra) {
        return office.pay(office.run(0, office.addPaper(0, 12, rate, least, extra), 9));
    }

    private void hands() {
        Scene oneMore = Scene.FRESH.and(office -> {
            for (int i = 0; i < 8; i++) {
                office.addHand();
            }
            office.addWord(1, 'f', 0);
            office.addPaper(0, 12, 10, 0, 0);
            Desk.story(office, 0, 0);
        });
        Edges few = new Edges(check, oneMore);
        few.number("4: hand", Edges.INDEX, 0, 10, 7, 10, (office, n) -> {
            int story = office.file(n, 0);
            office.write(story, 0);
            office.run(story, 0, 1);
            return office.owed(0, n);
        });
        few.number("5: hand", Edges.INDEX, 0, 10, 7, 10, (office, n) -> {
            office.run(office.fork(n, 0), 0, 1);
            return office.owed(0, n);
        });
        full.number("25: hand", Edges.INDEX, 0, 40, 7, 0, (office, n) -> office.owed(0, n));
        full.number("26: hand", Edges.INDEX, 0, 1, 7, 0, (office, n) -> office.claim(n, 0, 9));
        full.number("27: hand", Edges.INDEX, 0, 39, 7, 0, (office, n) -> office.settle(n, 0));
        full.number("28: hand", Edges.INDEX, 0, 44, 7, 20, LinageOffice::paid);
    }

    private void storiesThatChange() {
        ready.number("6: story", Edges.INDEX, 0, 3, 19, 60, (office, n) -> office.write(n, 0));
        ready.number("7: story", Edges.INDEX, 0, 5, 19, 1, (office, n) -> office.correct(n, 1, 7));
        ready.number("21: story", Edges.INDEX, 0, "false, true", 19, "false, true",
            (office, n) -> office.setExclusive(n, true) + ", " + office.setExclusive(n, true));
        ready.number("22: story", Edges.INDEX, 0, "run 0 with 2", 19, "run 0 with 59", (office, n) -> {
            int run = office.run(n, 1, 99);
            return "run " + run + " with " + office.ran(run);
        });
        Scene nineteen = Scene.DESK.and(office -> {
            for (int i = 4; i < 19; i++) {
                Desk.story(office, 9, 2);
            }
        });
        new Edges(check, nineteen).number("5: story", Edges.INDEX, 0, "19 with 6", 18, "19 with 1",
            (office, n) -> {
                int story = office.fork(1, n);
                return story + " with " + office.length(story);
            });
    }

    private void storiesThatAreTold() {
        full.number("8: story", Edges.INDEX, 0, 2, 19, 60, LinageOffice::length);
        full.number("9: story", Edges.INDEX, 0, 5, 19, 1, (office, n) -> office.wordAt(n, 1));
        full.number("10: story", Edges.INDEX, 0, 0, 19, 1, LinageOffice::depth);
        // All words are twice in story 19: two empty ones, and behind the first thirty the 26 facts once more.
        full.number("29: story", Edges.INDEX, 0, 0, 19, 2 + 26, LinageOffice::padding);
        full.number("30: story", Edges.INDEX, 0, false, 19, true, (office, n) -> office.isPadding(n, 1));
        full.number("31: story", Edges.INDEX, 0, 0, 19, 30, LinageOffice::shingles);
        full.number("32: story", Edges.INDEX, 0, 0, 19, 100, (office, n) -> office.likeness(n, 19));
        full.number("32: other", Edges.INDEX, 0, 0, 19, 100, (office, n) -> office.likeness(19, n));
        full.number("34: story", Edges.INDEX, 0, false, 19, true, (office, n) -> office.areOne(n, 19));
        full.number("34: other", Edges.INDEX, 0, false, 19, true, (office, n) -> office.areOne(19, n));
    }

    private void storiesInPapers() {
        // Story 19 has words of 1 to 12, 1 to 12 and 1 to 6 letters, all twice, and a hyphen in word 4 each time.
        full.number("15: story", Edges.INDEX, 0, 2, 19, 62, (office, n) -> office.count(n, 0));
        full.number("15: story, by signs", Edges.INDEX, 0, 8, 19, 2 * (78 + 78 + 21) + 59,
            (office, n) -> office.count(n, 1));
        full.number("16: story", Edges.INDEX, 0, 1, 19, LINES_OF_12, (office, n) -> office.lines(n, 0));
        full.number("17: story", Edges.INDEX, 0, 0, 19, BADNESS_OF_12, (office, n) -> office.badness(n, 0));
        full.number("18: story", Edges.INDEX, 0, 2, 19, 5, (office, n) -> office.fits(n, 1, 1));
        full.number("20: story", Edges.INDEX, 0, 0, 19, 2, (office, n) -> office.breaches(n, 0));
    }

    private void places() {
        full.number("7: place", Edges.ELEMENT, 0, "0, then 7", 59, "29, then 7",
            (office, n) -> office.correct(19, n, 7) + ", then " + office.wordAt(19, n));
        full.number("9: place", Edges.ELEMENT, 0, 0, 59, 29, (office, n) -> office.wordAt(19, n));
        full.number("30: place", Edges.ELEMENT, 0, false, 59, true, (office, n) -> office.isPadding(19, n));
        full.number("9: the place in few words", Edges.ELEMENT, 0, 0, 1, 5, (office, n) -> office.wordAt(0, n));
        ready.number("7: the place in few words", Edges.ELEMENT, 0, 0, 1, 5, (office, n) -> office.correct(0, n, 7));
        full.number("30: the place in few words", Edges.ELEMENT, 0, false, 1, false,
            (office, n) -> office.isPadding(0, n));
    }

    private void words() {
        ready.number("6: word", Edges.INDEX, 0, "3 with 0", 29, "3 with 29",
            (office, n) -> office.write(0, n) + " with " + office.wordAt(0, 2));
        ready.number("7: word", Edges.INDEX, 0, "5, then 0", 29, "5, then 29",
            (office, n) -> office.correct(0, 1, n) + ", then " + office.wordAt(0, 1));
        full.number("19: word", Edges.INDEX, 0, "false, true", 29, "false, true",
            (office, n) -> office.ban(4, n, true) + ", " + office.ban(4, n, true));
        full.number("35: word", Edges.INDEX, 0, 12, 29, 13, LinageOffice::known);
        full.number("36: word", Edges.INDEX, 0, 0, 29, 19, LinageOffice::first);
    }

    private void papers() {
        full.number("15: paper", Edges.INDEX, 0, 2, 4, 8, (office, n) -> office.count(0, n));
        full.number("16: paper", Edges.INDEX, 0, LINES_OF_12, 4, LINES_OF_40,
            (office, n) -> office.lines(19, n));
        full.number("17: paper", Edges.INDEX, 0, BADNESS_OF_12, 4, BADNESS_OF_40,
            (office, n) -> office.badness(19, n));
        // Words of 1, 2, 3 and 4 letters are 10 and 3 blanks: too long for 12 signs.
        full.number("18: paper", Edges.INDEX, 0, 3, 4, 7, (office, n) -> office.fits(19, n, 1));
        full.number("19: paper", Edges.INDEX, 0, "false, true", 4, "false, true",
            (office, n) -> office.ban(n, 3, true) + ", " + office.ban(n, 3, true));
        full.number("20: paper", Edges.INDEX, 0, 2, 4, 0, (office, n) -> office.breaches(19, n));
        ready.number("22: paper", Edges.INDEX, 0, 20, 4, 8 * 14, (office, n) -> office.pay(office.run(0, n, 9)));
        full.number("25: paper", Edges.INDEX, 0, 40, 4, 8 * 14 / 2, (office, n) -> office.owed(n, 0));
        full.number("26: paper", Edges.INDEX, 0, 0, 4, 99999, (office, n) -> office.claim(7, n, 1));
        full.number("27: paper", Edges.INDEX, 0, 0, 4, -99999, (office, n) -> office.settle(7, n));
    }

    private void runs() {
        full.number("23: run", Edges.INDEX, 0, 2, 29, 1, LinageOffice::ran);
        full.number("24: run", Edges.INDEX, 0, 20, 29, 10, LinageOffice::pay);
    }

    /** In each scene: where nothing is, where one more could be, and where there are as many as can be. */
    private void none(String told, int onDesk, int inFull, Edges.Numbered call) {
        fresh.noNumber(told + " of none", Edges.INDEX, 0, -1, call);
        desk.noNumber(told + " of few", Edges.INDEX, 0, onDesk - 1, call);
        full.noNumber(told + " of all", Edges.INDEX, 0, inFull - 1, call);
    }

    private void noSuchHand() {
        none("4: no such hand", 2, 8, (office, n) -> office.file(n, 0));
        none("5: no such hand", 2, 8, (office, n) -> office.fork(n, 0));
        none("25: no such hand", 2, 8, (office, n) -> office.owed(0, n));
        none("26: no such hand", 2, 8, (office, n) -> office.claim(n, 0, 1));
        none("27: no such hand", 2, 8, (office, n) -> office.settle(n, 0));
        none("28: no such hand", 2, 8, LinageOffice::paid);
    }

    private void noSuchStory() {
        none("5: no such story", 4, 20, (office, n) -> office.fork(0, n));
        none("6: no such story", 4, 20, (office, n) -> office.write(n, 0));
        none("7: no such story", 4, 20, (office, n) -> office.correct(n, 0, 0));
        none("8: no such story", 4, 20, LinageOffice::length);
        none("9: no such story", 4, 20, (office, n) -> office.wordAt(n, 0));
        none("10: no such story", 4, 20, LinageOffice::depth);
        none("21: no such story", 4, 20, (office, n) -> office.setExclusive(n, true));
        none("29: no such story", 4, 20, LinageOffice::padding);
        none("30: no such story", 4, 20, (office, n) -> office.isPadding(n, 0));
        none("31: no such story", 4, 20, LinageOffice::shingles);
        none("32: no such story", 4, 20, (office, n) -> office.likeness(n, 0));
        none("32: no such other", 4, 20, (office, n) -> office.likeness(0, n));
        none("32: neither", 4, 20, (office, n) -> office.likeness(n, n));
        none("34: no such story", 4, 20, (office, n) -> office.areOne(n, 0));
        none("34: no such other", 4, 20, (office, n) -> office.areOne(0, n));
        none("34: neither", 4, 20, (office, n) -> office.areOne(n, n));
    }

    private void noSuchStoryForAPaper() {
        none("15: no such story", 4, 20, (office, n) -> office.count(n, 0));
        none("16: no such story", 4, 20, (office, n) -> office.lines(n, 0));
        none("17: no such story", 4, 20, (office, n) -> office.badness(n, 0));
        none("18: no such story", 4, 20, (office, n) -> office.fits(n, 0, 1));
        none("20: no such story", 4, 20, (office, n) -> office.breaches(n, 0));
        none("22: no such story", 4, 20, (office, n) -> office.run(n, 0, 1));
    }

    private void noSuchWord() {
        none("6: no such word", 6, 30, (office, n) -> office.write(1, n));
        none("7: no such word", 6, 30, (office, n) -> office.correct(0, 0, n));
        none("19: no such word", 6, 30, (office, n) -> office.ban(0, n, true));
        none("35: no such word", 6, 30, LinageOffice::known);
        none("36: no such word", 6, 30, LinageOffice::first);
    }

    private void noSuchPaper() {
        none("15: no such paper", 3, 5, (office, n) -> office.count(0, n));
        none("16: no such paper", 3, 5, (office, n) -> office.lines(0, n));
        none("17: no such paper", 3, 5, (office, n) -> office.badness(0, n));
        none("18: no such paper", 3, 5, (office, n) -> office.fits(0, n, 1));
        none("19: no such paper", 3, 5, (office, n) -> office.ban(n, 0, true));
        none("20: no such paper", 3, 5, (office, n) -> office.breaches(0, n));
        none("22: no such paper", 3, 5, (office, n) -> office.run(0, n, 1));
        none("25: no such paper", 3, 5, (office, n) -> office.owed(n, 0));
        none("26: no such paper", 3, 5, (office, n) -> office.claim(0, n, 1));
        none("27: no such paper", 3, 5, (office, n) -> office.settle(0, n));
    }

    private void noSuchRun() {
        none("23: no such run", 1, 30, LinageOffice::ran);
        none("24: no such run", 1, 30, LinageOffice::pay);
    }
}
