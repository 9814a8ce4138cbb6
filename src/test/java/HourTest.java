/** Hours: of filing, when night begins and ends, and when an exclusive story may run again. */
final class HourTest {
    private final Check check;

    private HourTest(Check check) {
        this.check = check;
    }

    static void runAll(Check check) {
        HourTest test = new HourTest(check);
        test.nights();
        test.hourOfRun();
        test.cutsAtNight();
        test.exclusive();
        test.exclusiveThrice();
        test.exclusiveOrNot();
        test.hourOfFiling();
    }

    /** Story 0, exclusive or not, has one word; each paper pays 60 for it, and half of that more at night. */
    private static Scene at(int hour, boolean isExclusive) {
        return Scene.FRESH.and(office -> {
            office.addHand();
            office.addWord(1, 'f', 0);
            Desk.story(office, 0, 0);
            office.setExclusive(0, isExclusive);
            for (int i = 0; i < 5; i++) {
                office.addPaper(0, 12, 60, 0, 50);
            }
            Desk.waitTill(office, hour);
        });
    }

    private void nights() {
        int[] days = {0, 1, 2, 10, 400};
        int[] night = {22, 23, 0, 1, 4};
        int[] day = {5, 6, 12, 20, 21};
        for (int date : days) {
            for (int i = 0; i < night.length; i++) {
                int late = 24 * date + night[i];
                new Edges(check, at(late, false)).answers("24: night, hour " + late, 90,
                    office -> office.pay(office.run(0, 0, 1)));
                int bright = 24 * date + day[i];
                new Edges(check, at(bright, false)).answers("24: day, hour " + bright, 60,
                    office -> office.pay(office.run(0, 0, 1)));
            }
        }
    }

    private void hourOfRun() {
        new Edges(check, at(21, false)).answers("24: run ahead of the night that has begun", 60, office -> {
            office.run(0, 0, 1);
            office.pass(1);
            return office.pay(0);
        });
        new Edges(check, at(4, false)).answers("24: run in the night that has ended", 90, office -> {
            office.run(0, 0, 1);
            office.pass(1);
            return office.pay(0);
        });
        new Edges(check, at(22, false)).answers("24: filed by day, run at night", 90,
            office -> office.pay(office.run(0, 0, 1)));
        new Edges(check, at(12, false)).answers("24: owed as it was when it ran", 60, office -> {
            office.run(0, 0, 1);
            office.pass(10);
            return office.owed(0, 0);
        });
    }

    /** By hand: the least pay first, then the night, then the half; each is cut by itself. */
    private void cutsAtNight() {
        int[][] rows = {
            // Least pay, extra, due in one paper, and due in a second one.
            {0, 0, 60, 30}, {61, 0, 61, 30}, {61, 1, 61, 30}, {99, 1, 99, 49}, {100, 1, 101, 50}, {101, 1, 102, 51},
            {61, 50, 91, 45}, {61, 99, 121, 60}, {61, 100, 122, 61}, {999, 100, 1998, 999}, {999, 99, 1988, 994},
            {59, 100, 120, 60},
        };
        for (int[] row : rows) {
            Scene scene = Scene.FRESH.and(office -> {
                office.addHand();
                office.addWord(1, 'f', 0);
                Desk.story(office, 0, 0);
                office.addPaper(0, 12, 60, row[0], row[1]);
                office.addPaper(0, 12, 60, row[0], row[1]);
                office.run(0, 1, 1);
                office.run(0, 0, 1);
            });
            String told = "24: least pay " + row[0] + ", extra " + row[1];
            new Edges(check, scene).answers(told, row[2], office -> office.pay(0));
            new Edges(check, scene).answers(told + ", second sale", row[3], office -> office.pay(1));
        }
    }

    private void exclusive() {
        int[] hours = {0, 1, 12, 13, 23, 24, 400};
        for (int hour : hours) {
            Scene ran = at(hour, true).and(office -> office.run(0, 0, 1));
            new Edges(check, ran).refused("22: at once, in hour " + hour, Edges.UNSUPPORTED,
                office -> office.run(0, 1, 1));
            for (int later = 1; later <= 11; later += 5) {
                int hours11 = later;
                new Edges(check, ran.and(office -> office.pass(hours11))).refused(
                    "22: later by " + later + ", from hour " + hour, Edges.UNSUPPORTED, office -> office.run(0, 1, 1));
            }
            for (int later = 12; later <= 99; later += 29) {
                int hours12 = later;
                new Edges(check, ran.and(office -> office.pass(hours12))).answers(
                    "22: later by " + later + ", from hour " + hour, 1, office -> office.run(0, 1, 1));
            }
            new Edges(check, ran.and(office -> Desk.waitTill(office, hour + 99))).refused(
                "22: ever again in that paper", Edges.UNSUPPORTED, office -> office.run(0, 0, 1));
        }
        Scene stepwise = at(0, true).and(office -> {
            office.run(0, 0, 1);
            for (int i = 0; i < 12; i++) {
                Answer.of(() -> office.run(0, 1, 1));
                office.pass(1);
            }
        });
        new Edges(check, stepwise).answers("22: 12 hours, tried in each", 1, office -> office.run(0, 1, 1));
    }

    private void exclusiveThrice() {
        Scene twice = at(3, true).and(office -> {
            office.run(0, 0, 1);
            office.pass(12);
            office.run(0, 1, 1);
        });
        new Edges(check, twice.and(office -> office.pass(11))).refused("22: 11 hours behind the second run",
            Edges.UNSUPPORTED, office -> office.run(0, 2, 1));
        new Edges(check, twice.and(office -> office.pass(12))).answers("22: 12 hours behind the second run", 2,
            office -> office.run(0, 2, 1));
        Scene apart = at(3, true).and(office -> {
            office.run(0, 4, 1);
            office.pass(90);
            office.run(0, 3, 1);
            office.pass(11);
        });
        new Edges(check, apart).refused("22: the first run was long ago, the second was not", Edges.UNSUPPORTED,
            office -> office.run(0, 0, 1));
    }

    private void exclusiveOrNot() {
        Scene not = at(3, false).and(office -> office.run(0, 0, 1));
        new Edges(check, not).answers("22: not exclusive, in the same hour", 1, office -> office.run(0, 1, 1));
        new Edges(check, not).refused("21: too late to be exclusive", Edges.UNSUPPORTED,
            office -> office.setExclusive(0, true));
        Scene exclusive = at(3, true).and(office -> office.run(0, 0, 1));
        new Edges(check, exclusive).refused("21: too late to be exclusive no more", Edges.UNSUPPORTED,
            office -> office.setExclusive(0, false));
        Scene noMore = at(3, true).and(office -> {
            office.setExclusive(0, false);
            office.run(0, 0, 1);
        });
        new Edges(check, noMore).answers("22: exclusive no more", 1, office -> office.run(0, 1, 1));
        new Edges(check, exclusive).answers("22: another story in the same hour", 1,
            office -> office.run(Desk.story(office, 0, 0), 0, 1));
        new Edges(check, exclusive).answers("22: its version in the same hour", 1,
            office -> office.run(office.fork(0, 0), 1, 1));
        Scene versionRan = at(3, true).and(office -> office.run(office.fork(0, 0), 0, 1));
        new Edges(check, versionRan).answers("22: exclusive, and its version ran", 1, office -> office.run(0, 1, 1));
        new Edges(check, at(3, true)).answers("22: the first run needs no wait", 0, office -> office.run(0, 1, 1));
    }

    /** Story 0 is filed in hour 0, 1 in hour 1, and 2, a version of 0, in hour 100. */
    private void hourOfFiling() {
        Scene scene = Scene.FRESH.and(office -> {
            office.addHand();
            office.addWord(1, 'f', 0);
            office.addWord(1, 'f', 0);
            office.file(0, 0);
            office.pass(1);
            office.file(0, 0);
            office.pass(99);
            office.fork(0, 0);
        });
        for (int i = 0; i < 3; i++) {
            int story = i;
            int hour = new int[] {0, 1, 100}[i];
            Edges edges = new Edges(check, scene.and(office -> office.write(story, 1)));
            edges.answers("35: filed in hour " + hour, hour, office -> office.known(1));
            edges.answers("36: filed in hour " + hour, story, office -> office.first(1));
            edges.answers("35: written later", hour, office -> {
                office.pass(50);
                office.write(story, 1);
                return office.known(1);
            });
        }
        Edges all = new Edges(check, scene.and(office -> {
            office.write(2, 1);
            office.write(1, 1);
            office.write(0, 1);
        }));
        all.answers("35: the earliest hour, though written last", 0, office -> office.known(1));
        all.answers("36: the earliest hour, though written last", 0, office -> office.first(1));
        Edges versionOnly = new Edges(check, scene.and(office -> office.write(2, 1)));
        versionOnly.answers("35: a version's own hour", 100, office -> office.known(1));
        Edges alike = new Edges(check, scene.and(office -> Desk.story(office, 9, 1)).and(office -> office.write(2, 1)));
        alike.answers("36: of one hour, the lowest number", 2, office -> office.first(1));
    }
}
