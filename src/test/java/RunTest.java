/** Promises 21 to 28: runs, pay. */
final class RunTest {
    private static final int DAY = 12;

    private RunTest() {
    }

    static void runAll(Check check) {
        setExclusive(check);
        run(check);
        runRefused(check);
        runInOrder(check);
        thirtyRuns(check);
        exclusiveHours(check);
        payByRule(check);
        payWhatRan(check);
        nights(check);
        cutAtNight(check);
        secondSales(check);
        versionsInOnePaper(check);
        owed(check);
        claim(check);
        settle(check);
        paid(check);
        noSuch(check);
    }

    private static void setExclusive(Check check) {
        LinageOffice office = Desk.withKinds("f");
        Desk.story(office, 0, 0);
        office.addPaper(0, 12, 1, 0, 0);
        check.due("21: not at first", office.setExclusive(0, true), false);
        check.due("21: it was", office.setExclusive(0, true), true);
        check.due("21: no more", office.setExclusive(0, false), true);
        check.due("21: it was not", office.setExclusive(0, true), false);
        check.thrown("21: story 1", IndexOutOfBoundsException.class, () -> office.setExclusive(1, true));
        check.thrown("21: story -1", IndexOutOfBoundsException.class, () -> office.setExclusive(-1, true));
        office.fork(0, 0);
        office.run(0, 0, 1);
        check.thrown("21: it ran", UnsupportedOperationException.class, () -> office.setExclusive(0, false));
        check.due("21: its version did not run", office.setExclusive(1, true), false);
    }

    private static void run(Check check) {
        LinageOffice office = Desk.withLetters(8, 8, 8);
        office.addPaper(2, 12, 10, 0, 0);
        office.addPaper(2, 12, 10, 0, 0);
        office.addPaper(2, 12, 10, 0, 0);
        check.due("22: run", office.run(0, 0, 2), 0);
        check.due("22: in another paper", office.run(0, 1, 99), 1);
        check.due("22: in a third", office.run(0, 2, 1), 2);
        check.due("23: in two lines", office.ran(0), 2);
        check.due("23: all of it", office.ran(1), 3);
        check.due("23: in one line", office.ran(2), 1);
        check.thrown("23: run 3", IndexOutOfBoundsException.class, () -> office.ran(3));
        check.thrown("23: run -1", IndexOutOfBoundsException.class, () -> office.ran(-1));
        check.thrown("24: run 3", IndexOutOfBoundsException.class, () -> office.pay(3));
        check.thrown("24: run -1", IndexOutOfBoundsException.class, () -> office.pay(-1));
    }

    private static void runRefused(Check check) {
        LinageOffice office = Desk.withKinds("fe");
        Desk.story(office, 0, 0, 0, 0, 1);
        office.file(0, 0);
        office.addPaper(0, 12, 1, 0, 0);
        office.addPaper(0, 12, 1, 0, 0);
        check.thrown("22: nothing of it fits", UnsupportedOperationException.class, () -> office.run(1, 0, 9));
        office.ban(0, 1, true);
        check.thrown("22: a barred word that would be cut", UnsupportedOperationException.class,
            () -> office.run(0, 0, 1));
        check.due("22: another paper does not bar it", office.run(0, 1, 1), 0);
        check.thrown("22: it ran in that paper", UnsupportedOperationException.class, () -> office.run(0, 1, 1));
        office.ban(0, 1, false);
        check.due("22: no longer barred", office.run(0, 0, 1), 1);
        office.pass(99);
        check.thrown("22: it ran there, long ago", UnsupportedOperationException.class, () -> office.run(0, 1, 9));
        office.ban(1, 0, true);
        check.due("22: a bar comes too late for a run", office.ran(0), 2);
    }

    private static void runInOrder(Check check) {
        LinageOffice office = Desk.withKinds("f");
        Desk.story(office, 0, 0);
        office.file(0, 0);
        office.addPaper(0, 12, 1, 0, 0);
        check.thrown("22: story ahead of lines", IndexOutOfBoundsException.class, () -> office.run(2, 0, 0));
        check.thrown("22: paper ahead of lines", IndexOutOfBoundsException.class, () -> office.run(0, 1, 0));
        check.thrown("22: story -1", IndexOutOfBoundsException.class, () -> office.run(-1, 0, 1));
        check.thrown("22: paper -1", IndexOutOfBoundsException.class, () -> office.run(0, -1, 1));
        int[] wrong = {0, 100, -1, Integer.MIN_VALUE, Integer.MAX_VALUE};
        for (int lines : wrong) {
            check.thrown("22: lines " + lines, IllegalArgumentException.class, () -> office.run(1, 0, lines));
        }
        check.due("22: ninety-nine lines", office.run(0, 0, 99), 0);
    }

    private static void thirtyRuns(Check check) {
        LinageOffice office = Desk.withKinds("f");
        for (int i = 0; i < 5; i++) {
            office.addPaper(0, 12, 1, 0, 0);
        }
        for (int i = 0; i < 30; i++) {
            if (i % 5 == 0) {
                Desk.story(office, 0, 0);
            }
            check.due("22: thirty runs", office.run(i / 5, i % 5, 1), i);
        }
        Desk.story(office, 0, 0);
        check.thrown("22: 31 runs", IllegalStateException.class, () -> office.run(6, 0, 1));
        check.thrown("22: ran there ahead of full", UnsupportedOperationException.class, () -> office.run(5, 0, 1));
        check.thrown("22: lines ahead of full", IllegalArgumentException.class, () -> office.run(6, 0, 0));
        check.due("22: a refused run is no run", office.write(6, 0), 2);
        check.due("41: thirty runs are sound", office.isSound(), true);
    }

    private static void exclusiveHours(Check check) {
        LinageOffice office = Desk.withKinds("f");
        Desk.story(office, 0, 0);
        for (int i = 0; i < 4; i++) {
            office.addPaper(0, 12, 1, 0, 0);
        }
        office.setExclusive(0, true);
        office.fork(0, 0);
        check.due("22: the first run", office.run(0, 0, 1), 0);
        check.thrown("22: in the same hour", UnsupportedOperationException.class, () -> office.run(0, 1, 1));
        check.due("22: its version is not exclusive", office.run(1, 1, 1), 1);
        office.pass(11);
        check.thrown("22: 11 hours later", UnsupportedOperationException.class, () -> office.run(0, 1, 1));
        office.pass(1);
        check.due("22: 12 hours later", office.run(0, 1, 1), 2);
        check.thrown("22: it ran just now", UnsupportedOperationException.class, () -> office.run(0, 2, 1));
        office.pass(12);
        check.due("22: 12 hours behind the latest", office.run(0, 2, 1), 3);
    }

    private static void payByRule(Check check) {
        // Two words, the second with a hyphen; then three words of five letters, in two lines of twelve signs.
        payOnce(check, "by words", 0, 0, 3 * 7, 0, 1);
        payOnce(check, "by signs", 1, 0, 17 * 7, 0, 1, 0);
        payOnce(check, "by lines", 2, 0, 2 * 7, 0, 1, 0);
        payOnce(check, "less least pay", 0, 20, 21, 0, 1);
        payOnce(check, "as much least pay", 0, 21, 21, 0, 1);
        payOnce(check, "more least pay", 0, 22, 22, 0, 1);
    }

    private static void payOnce(Check check, String told, int rule, int least, int due, int... words) {
        LinageOffice office = Desk.withKinds("fh");
        Desk.waitTill(office, DAY);
        Desk.story(office, 0, words);
        office.addPaper(rule, 12, 7, least, 100);
        check.due("24: " + told, office.pay(office.run(0, 0, 9)), due);
    }

    private static void payWhatRan(Check check) {
        int[] due = {3 * 10, 17 * 10, 2 * 10};
        for (int rule = 0; rule < 3; rule++) {
            LinageOffice office = Desk.withLetters(6, 5, 4, 11);
            Desk.waitTill(office, DAY);
            office.addPaper(rule, 12, 10, 0, 0);
            check.due("24: what ran of it, by rule " + rule, office.pay(office.run(0, 0, 2)), due[rule]);
            check.due("23: the words that ran", office.ran(0), 3);
        }
    }

    private static int payAt(int hour, int extra) {
        LinageOffice office = Desk.withKinds("f");
        Desk.waitTill(office, hour);
        Desk.story(office, 0, 0);
        office.addPaper(0, 12, 60, 0, extra);
        office.run(0, 0, 1);
        office.pass(7);
        return office.pay(0);
    }

    private static void nights(Check check) {
        for (int hour = 0; hour < 72; hour++) {
            int ofDay = hour % 24;
            check.due("24: hour " + hour, payAt(hour, 50), ofDay >= 22 || ofDay < 5 ? 90 : 60);
        }
        check.due("24: no extra", payAt(0, 0), 60);
        check.due("24: the most extra", payAt(0, 100), 120);
        check.due("24: an extra that is cut", payAt(0, 99), 119);
    }

    private static void cutAtNight(Check check) {
        LinageOffice office = Desk.withKinds("f");
        Desk.story(office, 0, 0);
        office.addPaper(0, 12, 1, 7, 50);
        office.addPaper(0, 12, 1, 7, 50);
        office.addPaper(0, 12, 1, 9, 33);
        check.due("24: 7 and half of that, cut", office.pay(office.run(0, 0, 1)), 10);
        check.due("24: the half of it all", office.pay(office.run(0, 1, 1)), 5);
        check.due("24: 9 and 2, half of it cut", office.pay(office.run(0, 2, 1)), 5);
        check.due("24: the first sale stays whole", office.pay(0), 10);
    }

    private static void secondSales(Check check) {
        LinageOffice office = Desk.withKinds("f");
        Desk.waitTill(office, DAY);
        Desk.story(office, 0, 0);
        office.fork(0, 0);
        office.fork(0, 1);
        office.fork(0, 0);
        office.fork(0, 3);
        Desk.story(office, 0, 0);
        for (int i = 0; i < 4; i++) {
            office.addPaper(0, 12, 9, 0, 0);
        }
        check.due("24: the last version first", office.pay(office.run(2, 0, 1)), 9);
        check.due("24: what it comes from by two", office.pay(office.run(0, 1, 1)), 4);
        check.due("24: what comes from that", office.pay(office.run(3, 2, 1)), 4);
        check.due("24: that which is between", office.pay(office.run(1, 3, 1)), 4);
        check.due("24: a like story that comes from none", office.pay(office.run(5, 3, 1)), 9);

        LinageOffice sisters = Desk.withKinds("f");
        Desk.waitTill(sisters, DAY);
        Desk.story(sisters, 0, 0);
        sisters.fork(0, 0);
        sisters.fork(0, 0);
        sisters.addPaper(0, 12, 9, 0, 0);
        sisters.addPaper(0, 12, 9, 0, 0);
        check.due("24: a version", sisters.pay(sisters.run(1, 0, 1)), 9);
        check.due("24: another version of the same", sisters.pay(sisters.run(2, 1, 1)), 9);
    }

    private static void versionsInOnePaper(Check check) {
        LinageOffice office = Desk.withKinds("f");
        Desk.waitTill(office, DAY);
        Desk.story(office, 0, 0);
        office.fork(0, 0);
        office.addPaper(0, 12, 9, 0, 0);
        office.addPaper(0, 12, 9, 0, 0);
        check.due("24: in one paper", office.pay(office.run(0, 0, 1)), 9);
        check.due("24: a version in the same paper", office.pay(office.run(1, 0, 1)), 9);
        check.due("24: in another", office.pay(office.run(1, 1, 1)), 4);
        check.due("24: what ran ahead is not changed", office.pay(0), 9);
        office.fork(0, 0);
        check.due("24: a version of what ran", office.pay(office.run(2, 0, 1)), 9);
    }

    private static void owed(Check check) {
        LinageOffice office = Desk.withKinds("f");
        Desk.waitTill(office, DAY);
        office.addHand();
        office.addPaper(0, 12, 9, 0, 0);
        office.addPaper(0, 12, 5, 0, 0);
        office.file(1, 0);
        office.write(0, 0);
        Desk.story(office, 0, 0);
        Desk.story(office, 0, 0, 0);
        check.due("25: nothing yet", office.owed(0, 0), 0);
        office.run(0, 1, 1);
        office.run(1, 0, 1);
        office.run(2, 0, 1);
        check.due("25: two runs", office.owed(0, 0), 27);
        check.due("25: the other paper", office.owed(1, 0), 0);
        check.due("25: the other hand", office.owed(1, 1), 5);
        check.due("25: the other hand's other paper", office.owed(0, 1), 0);
        office.settle(0, 0);
        check.due("25: settled", office.owed(0, 0), 0);
        check.due("25: the other hand is not settled", office.owed(1, 1), 5);
        office.run(1, 1, 1);
        check.due("25: the half of a second sale", office.owed(1, 0), 2);
    }

    private static void claim(Check check) {
        LinageOffice office = Desk.withKinds("f");
        office.addHand();
        office.addPaper(0, 12, 9, 0, 0);
        office.addPaper(0, 12, 9, 0, 0);
        check.due("26: none before", office.claim(0, 1, 99999), 0);
        check.due("26: one before", office.claim(0, 1, 3), 99999);
        check.due("26: another hand", office.claim(1, 1, 4), 0);
        check.due("26: another paper", office.claim(0, 0, 0), 0);
        int[] wrong = {-1, 100000, Integer.MIN_VALUE, Integer.MAX_VALUE};
        for (int sum : wrong) {
            check.thrown("26: sum " + sum, IllegalArgumentException.class, () -> office.claim(0, 1, sum));
            check.thrown("26: hand ahead of sum", IndexOutOfBoundsException.class, () -> office.claim(2, 1, sum));
            check.thrown("26: paper ahead of sum", IndexOutOfBoundsException.class, () -> office.claim(0, 2, sum));
        }
        check.due("26: a wrong claim changes nothing", office.claim(0, 1, 0), 3);
        check.due("26: a claim of nothing", office.claim(0, 1, 5), 0);
    }

    private static void settle(Check check) {
        LinageOffice office = Desk.withKinds("f");
        Desk.waitTill(office, DAY);
        for (int i = 0; i < 3; i++) {
            office.addPaper(0, 12, 50, 0, 0);
            Desk.story(office, 0, 0);
            office.run(i, i, 1);
        }
        office.claim(0, 0, 30);
        check.due("27: less was claimed", office.settle(0, 0), 20);
        check.due("28: the claim is paid", office.paid(0), 30);
        office.claim(0, 1, 70);
        check.due("27: more was claimed", office.settle(0, 1), -20);
        check.due("28: what is owed is paid", office.paid(0), 80);
        check.due("27: nothing was claimed", office.settle(0, 2), 50);
        check.due("28: nothing is paid", office.paid(0), 80);
        check.due("27: it is settled all the same", office.owed(2, 0), 0);
        check.due("26: the claim is over", office.claim(0, 0, 8), 0);
        check.due("27: settled already", office.settle(0, 0), -8);
        check.due("28: as before", office.paid(0), 80);
        check.due("27: neither", office.settle(0, 0), 0);
        check.due("41: a settled office is sound", office.isSound(), true);
    }

    private static void paid(Check check) {
        LinageOffice office = Desk.withKinds("f");
        office.addHand();
        office.addPaper(0, 12, 9, 0, 0);
        Desk.waitTill(office, DAY);
        Desk.story(office, 0, 0);
        office.fork(1, 0);
        office.run(0, 0, 1);
        office.run(1, 0, 1);
        office.claim(0, 0, 9);
        office.claim(1, 0, 5);
        check.due("27: all that is owed", office.settle(0, 0), 0);
        check.due("27: the other hand's part", office.settle(1, 0), 4);
        check.due("28: the first hand", office.paid(0), 9);
        check.due("28: the other hand", office.paid(1), 5);
        check.thrown("28: hand 2", IndexOutOfBoundsException.class, () -> office.paid(2));
        check.thrown("28: hand -1", IndexOutOfBoundsException.class, () -> office.paid(-1));
    }

    private static void noSuch(Check check) {
        LinageOffice office = Desk.withKinds("f");
        office.addHand();
        office.addPaper(0, 12, 9, 0, 0);
        check.due("25: the paper comes first", office.owed(0, 1), 0);
        check.thrown("25: paper 1", IndexOutOfBoundsException.class, () -> office.owed(1, 0));
        check.thrown("25: paper -1", IndexOutOfBoundsException.class, () -> office.owed(-1, 0));
        check.thrown("25: hand 2", IndexOutOfBoundsException.class, () -> office.owed(0, 2));
        check.thrown("25: hand -1", IndexOutOfBoundsException.class, () -> office.owed(0, -1));
        check.due("27: the hand comes first", office.settle(1, 0), 0);
        check.thrown("27: hand 2", IndexOutOfBoundsException.class, () -> office.settle(2, 0));
        check.thrown("27: hand -1", IndexOutOfBoundsException.class, () -> office.settle(-1, 0));
        check.thrown("27: paper 1", IndexOutOfBoundsException.class, () -> office.settle(0, 1));
        check.thrown("27: paper -1", IndexOutOfBoundsException.class, () -> office.settle(0, -1));
        check.thrown("26: hand -1", IndexOutOfBoundsException.class, () -> office.claim(-1, 0, 1));
        check.thrown("26: paper -1", IndexOutOfBoundsException.class, () -> office.claim(0, -1, 1));
    }
}
