/** Each limit of the document: the last that there is room for, and the call behind it, refused. */
final class LimitTest {
    private final Check check;

    private LimitTest(Check check) {
        this.check = check;
    }

    static void runAll(Check check) {
        LimitTest test = new LimitTest(check);
        test.thirtyWords();
        test.eightHands();
        test.twentyStories();
        test.twentyVersions();
        test.sixtyWordsInStory();
        test.fivePapers();
        test.thirtyRuns();
        test.longestChain();
        test.longestRow();
        test.mostPay();
        test.latestHour();
    }

    /** The number before the limit is given out, and nothing behind it. */
    private void limit(String told, int limit, Scene empty, Edges.Numbered add) {
        LinageOffice filled = empty.made();
        for (int i = 0; i < limit; i++) {
            check.dueText(told + " " + i, String.valueOf(add.call(filled, i)), String.valueOf(i));
        }
        Scene all = empty.and(office -> {
            for (int i = 0; i < limit; i++) {
                add.call(office, i);
            }
        });
        new Edges(check, all).refused(told + ", one too many", Edges.STATE, office -> add.call(office, limit));
        Scene refused = all.and(office -> Answer.of(() -> add.call(office, limit)));
        new Edges(check, refused).refused(told + ", two too many", Edges.STATE, office -> add.call(office, limit));
    }

    private void thirtyWords() {
        limit("2: words", 30, Scene.FRESH, (office, n) -> office.addWord(1 + n % 12, "fetqh".charAt(n % 5), n % 10));
        limit("2: facts", 30, Scene.FRESH, (office, n) -> office.addWord(12, 'f', n % 10));
        Edges edges = new Edges(check, Scene.READY);
        for (char kind : "fetqh".toCharArray()) {
            edges.refused("2: a 31st word of kind " + kind, Edges.STATE, office -> office.addWord(12, kind, 9));
        }
    }

    private void eightHands() {
        limit("3: hands", 8, Scene.FRESH, (office, n) -> office.addHand());
        new Edges(check, Scene.FULL).refused("3: a ninth hand, where some were paid", Edges.STATE,
            LinageOffice::addHand);
    }

    private void twentyStories() {
        Scene hand = Scene.FRESH.and(LinageOffice::addHand);
        limit("4: stories", 20, hand, (office, n) -> office.file(0, n % 10));
        limit("4: stories, a version each second time", 20, hand,
            (office, n) -> n % 2 == 0 ? office.file(0, n % 10) : office.fork(0, n - 1));
    }

    private void twentyVersions() {
        Scene story = Scene.FRESH.and(office -> {
            office.addHand();
            office.addWord(1, 'f', 0);
        });
        limit("5: versions", 20, story, (office, n) -> n == 0 ? Desk.story(office, 0, 0) : office.fork(0, n / 2));
        Edges edges = new Edges(check, Scene.READY);
        for (int i = 0; i < 20; i++) {
            int from = i;
            edges.refused("5: a 21st story from " + i, Edges.STATE, office -> office.fork(0, from));
        }
    }

    private void sixtyWordsInStory() {
        Scene story = Scene.FRESH.and(office -> {
            office.addHand();
            office.addWord(5, 'f', 0);
            office.addWord(5, 'e', 1);
            office.file(0, 0);
        });
        limit("6: words in a story", 60, story, (office, n) -> office.write(0, n % 2) - 1);
        Scene sixty = story.and(office -> write(office, 0, 60));
        Scene versions = sixty.and(office -> office.fork(0, 0));
        Edges edges = new Edges(check, versions);
        edges.answers("5: a version of sixty words", 60, office -> office.length(1));
        edges.refused("6: a version of sixty words", Edges.STATE, office -> office.write(1, 1));
        edges.refused("6: what it comes from", Edges.STATE, office -> office.write(0, 1));
        edges.answers("6: another story", 1, office -> office.write(office.file(0, 0), 1));
        edges.answers("7: sixty words can be corrected", 1, office -> office.correct(1, 59, 0));
        Scene less = story.and(office -> {
            write(office, 0, 59);
            office.fork(0, 0);
        });
        new Edges(check, less).answers("6: the sixtieth word of a version", 60, office -> office.write(1, 1));
        new Edges(check, less.and(office -> office.write(1, 1)))
            .answers("6: the sixtieth word of what it comes from", 60, office -> office.write(0, 1));
    }

    private static void write(LinageOffice office, int story, int size) {
        for (int i = 0; i < size; i++) {
            office.write(story, i % 2);
        }
    }

    private void fivePapers() {
        limit("14: papers", 5, Scene.FRESH, (office, n) -> office.addPaper(n % 3, 12 + n, 1 + n, n, n));
    }

    private void thirtyRuns() {
        // Not story 5: it is exclusive.
        limit("22: runs", 30, Scene.READY, (office, n) -> office.run(n % 10 + n % 10 / 5, 1 + n / 10, 1 + n));
        Edges edges = new Edges(check, Scene.FULL);
        edges.refused("22: a 31st run of a story that ran", Edges.STATE, office -> office.run(6, 1, 1));
        edges.refused("22: a 31st run of another one", Edges.STATE, office -> office.run(11, 0, 1));
        edges.answers("22: a refused story can still be written", 3, office -> {
            Answer.of(() -> office.run(11, 0, 1));
            return office.write(11, 0);
        });
        Scene settled = Scene.FULL.and(office -> {
            for (int i = 0; i < 40; i++) {
                office.settle(i / 5, i % 5);
            }
        });
        new Edges(check, settled).refused("22: settled runs are runs", Edges.STATE, office -> office.run(11, 0, 1));
        Scene later = Scene.FULL.and(office -> office.pass(99));
        new Edges(check, later).refused("22: so are runs of long ago", Edges.STATE, office -> office.run(11, 0, 1));
    }

    private void longestChain() {
        Scene chain = Scene.FRESH.and(office -> {
            office.pass(12);
            office.addHand();
            office.addWord(1, 'f', 0);
            office.addPaper(0, 12, 10, 0, 0);
            office.addPaper(0, 12, 10, 0, 0);
            Desk.story(office, 0, 0);
            for (int i = 0; i < 19; i++) {
                office.fork(0, i);
            }
        });
        Edges edges = new Edges(check, chain);
        edges.answers("10: the first of twenty", 0, office -> office.depth(0));
        edges.answers("10: the last of twenty", 19, office -> office.depth(19));
        edges.answers("24: what it comes from by nineteen ran", 5, office -> {
            office.run(0, 0, 1);
            return office.pay(office.run(19, 1, 1));
        });
        edges.answers("24: what comes from it by nineteen ran", 5, office -> {
            office.run(19, 0, 1);
            return office.pay(office.run(0, 1, 1));
        });
        edges.answers("41: twenty in a chain", true, LinageOffice::isSound);
    }

    /** Each story has three shingles, two of them in the next one: 2 of 4. */
    private void longestRow() {
        Scene row = Scene.FRESH.and(office -> {
            office.addHand();
            for (int i = 0; i < 30; i++) {
                office.addWord(1, 'f', 0);
            }
            for (int i = 0; i < 20; i++) {
                // Not in the order of the row, so that a later story joins two earlier ones.
                int place = i * 7 % 20;
                Desk.story(office, 0, place, place + 1, place + 2, place + 3, place + 4);
            }
        });
        // Place 0 is that of story 0, place 19 that of story 17, place 10 that of story 10.
        Edges edges = new Edges(check, row);
        edges.answers("32: next to each other", 50, office -> office.likeness(0, 3));
        edges.answers("32: one further", 20, office -> office.likeness(0, 6));
        edges.answers("34: a row of twenty", true, office -> office.areOne(0, 17));
        edges.answers("34: from its end", true, office -> office.areOne(17, 0));
        edges.answers("33: a row of twenty", 1, office -> office.sources(0));
        Edges broken = new Edges(check, row.and(office -> office.correct(10, 2, 29)));
        broken.answers("34: a broken row", false, office -> office.areOne(0, 17));
        broken.answers("33: a broken row", 3, office -> office.sources(0));
    }

    private void mostPay() {
        Scene dear = Scene.FRESH.and(office -> {
            office.addHand();
            office.addWord(12, 'f', 0);
            office.file(0, 0);
            for (int i = 0; i < 60; i++) {
                office.write(0, 0);
            }
            office.addPaper(1, 40, 99, 999, 100);
            office.addPaper(1, 40, 99, 999, 100);
        });
        int most = (60 * 12 + 59) * 99 * 2;
        Edges edges = new Edges(check, dear);
        edges.answers("24: the most pay", most, office -> office.pay(office.run(0, 0, 99)));
        edges.answers("24: the half of the most", most / 2, office -> {
            office.run(0, 0, 99);
            return office.pay(office.run(0, 1, 99));
        });
        edges.answers("27: more than can be claimed", most - 99999 + " and 99999", office -> {
            office.run(0, 0, 99);
            office.claim(0, 0, 99999);
            return office.settle(0, 0) + " and " + office.paid(0);
        });
    }

    private void latestHour() {
        Scene late = Scene.FRESH.and(office -> {
            for (int i = 0; i < 500; i++) {
                office.pass(99);
            }
        });
        Edges edges = new Edges(check, late);
        edges.answers("13: after 500 times 99 hours", 49500, LinageOffice::hour);
        edges.answers("12: and 99 more", 49599, office -> office.pass(99));
    }
}
