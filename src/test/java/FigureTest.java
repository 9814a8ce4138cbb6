import java.math.BigInteger;

/** Promises 38 to 41: figures. */
final class FigureTest {
    private FigureTest() {
    }

    static void runAll(Check check) {
        checksum(check);
        checksumChangesNothing(check);
        checksumGoesRound(check);
        checksumOfMany(check);
        ranShare(check);
        meanPay(check);
        isSound(check);
    }

    private static long sumOver(long... rows) {
        long sum = 7;
        for (long row : rows) {
            sum = 31 * sum + row;
        }
        return sum;
    }

    private static void checksum(Check check) {
        LinageOffice office = new LinageOffice();
        check.due("38: a new object", office.checksum(), sumOver(0));
        office.addWord(5, 'f', 0);
        office.addWord(5, 'f', 0);
        office.addPaper(0, 12, 10, 0, 50);
        check.due("38: words and papers do not count", office.checksum(), sumOver(0));
        office.addHand();
        check.due("38: a hand", office.checksum(), sumOver(0, 0));
        office.pass(6);
        office.addHand();
        check.due("38: two hands and the hour", office.checksum(), sumOver(0, 0, 6));
        Desk.story(office, 0, 1, 0);
        office.pass(1);
        Desk.story(office, 0);
        check.due("38: stories", office.checksum(), sumOver(1, 0, 6, 7, 0, 0, 7));
        office.write(1, 1);
        office.run(1, 0, 1);
        office.run(0, 0, 1);
        check.due("38: runs", office.checksum(), sumOver(1, 0, 6, 1, 7, 10, 20, 0, 0, 7));
        office.claim(0, 0, 25);
        check.due("38: claims do not count", office.checksum(), sumOver(1, 0, 6, 1, 7, 10, 20, 0, 0, 7));
        office.settle(0, 0);
        check.due("38: what was paid", office.checksum(), sumOver(1, 0, 6, 1, 7, 10, 20, 25, 0, 7));
    }

    private static void checksumChangesNothing(Check check) {
        LinageOffice office = Desk.withKinds("ff");
        for (int i = 0; i < 10; i++) {
            Desk.story(office, i, 1, 1, 1, 1, 1, 1);
        }
        long before = office.checksum();
        check.due("38: again", office.checksum(), before);
        check.due("38: beyond an int", before != (int) before, true);
    }

    /** A story of so many words 0, filed by a hand in hour 0: with its hour, the hand and the hour three rows more. */
    private static LinageOffice ofZeros(int words) {
        LinageOffice office = Desk.withKinds("ff");
        office.file(0, 0);
        for (int i = 0; i < words; i++) {
            office.write(0, 0);
        }
        return office;
    }

    private static void checksumGoesRound(Check check) {
        // 7 times 31 to the 12th, the 13th, .., less 2 to the 64th as often as it takes; worked out by another program.
        check.due("38: the most that is in a long", ofZeros(9).checksum(), 5513639486519848327L);
        check.due("38: 31 times itself goes round", ofZeros(10).checksum(), 4902127418729333593L);
        check.due("38: it goes round twice", ofZeros(11).checksum(), 4391997390932928455L);
        check.due("38: thrice", ofZeros(12).checksum(), 7024710602953920793L);
        check.due("38: below 0", ofZeros(13).checksum(), -3594900192943074809L);
        LinageOffice word = ofZeros(12);
        word.write(0, 1);
        check.due("38: round at a word, then three rows", word.checksum(), sumRound(13, 31L * 31 * 31));
        LinageOffice hour = ofZeros(12);
        hour.pass(3);
        hour.file(0, 0);
        check.due("38: round at an hour", hour.checksum(), sumRound(13, 3 * 31 * 31 + 3));
        LinageOffice pay = ofZeros(12);
        pay.addPaper(0, 12, 1, 5, 0);
        pay.run(0, 0, 1);
        check.due("38: round at a pay", pay.checksum(), sumRound(13, 5 * 31 * 31));
        pay.claim(0, 0, 4);
        pay.settle(0, 0);
        check.due("38: round at what was paid", pay.checksum(), sumRound(13, 5 * 31 * 31 + 4 * 31));
    }

    /** What 7 comes to over the rows of so many words and three more, if all are 0, and this more; in a long. */
    private static long sumRound(int words, long more) {
        BigInteger sum = BigInteger.valueOf(31).pow(words + 3).multiply(BigInteger.valueOf(7));
        return sum.add(BigInteger.valueOf(more)).longValue();
    }

    private static void checksumOfMany(Check check) {
        LinageOffice office = Scene.FULL.made();
        BigInteger sum = BigInteger.valueOf(7);
        for (int story = 0; story < 20; story++) {
            for (int i = 0; i < office.length(story); i++) {
                sum = next(sum, office.wordAt(story, i));
            }
            sum = next(sum, story == 19 ? 13 : 12);
        }
        for (int run = 0; run < 30; run++) {
            sum = next(sum, office.pay(run));
        }
        for (int hand = 0; hand < 8; hand++) {
            sum = next(sum, office.paid(hand));
        }
        sum = next(sum, 13);
        check.due("38: it has many more signs than a long", sum.bitLength() > 600, true);
        check.due("38: a full office", office.checksum(), sum.longValue());
    }

    private static BigInteger next(BigInteger sum, long row) {
        return sum.multiply(BigInteger.valueOf(31)).add(BigInteger.valueOf(row));
    }

    private static void ranShare(Check check) {
        LinageOffice office = Desk.withKinds("f");
        check.thrown("39: no stories", ArithmeticException.class, office::ranShare);
        office.addPaper(0, 12, 1, 0, 0);
        office.addPaper(0, 12, 1, 0, 0);
        Desk.story(office, 0, 0);
        check.dueReal("39: none ran", office.ranShare(), 0.0);
        Desk.story(office, 0, 0);
        Desk.story(office, 0, 0);
        office.run(0, 0, 1);
        office.run(0, 1, 1);
        check.dueReal("39: one of three, twice", office.ranShare(), 1.0f / 3.0f);
        office.run(2, 0, 1);
        check.dueReal("39: two of three", office.ranShare(), 2.0f / 3.0f);
        office.run(1, 0, 1);
        check.dueReal("39: all", office.ranShare(), 1.0);
    }

    private static void meanPay(Check check) {
        LinageOffice office = Desk.withKinds("f");
        Desk.waitTill(office, 12);
        office.addPaper(0, 12, 10, 0, 0);
        check.thrown("40: no runs", ArithmeticException.class, office::meanPay);
        Desk.story(office, 0, 0);
        Desk.story(office, 0, 0, 0);
        Desk.story(office, 0, 0);
        office.run(0, 0, 1);
        check.dueReal("40: one run", office.meanPay(), 10.0);
        office.run(1, 0, 1);
        check.dueReal("40: two runs", office.meanPay(), 15.0);
        office.run(2, 0, 1);
        check.dueReal("40: three runs", office.meanPay(), 40.0 / 3.0);
        office.settle(0, 0);
        check.dueReal("40: settled runs count too", office.meanPay(), 40.0 / 3.0);
    }

    private static void isSound(Check check) {
        LinageOffice office = Desk.withKinds("fh");
        check.due("41: at first", office.isSound(), true);
        Desk.story(office, 0);
        Desk.story(office, 0, 0, 1, 0);
        office.fork(0, 1);
        office.fork(0, 2);
        check.due("41: stories and versions", office.isSound(), true);
        office.addPaper(2, 12, 10, 500, 100);
        office.run(1, 0, 1);
        office.run(2, 0, 9);
        check.due("41: runs", office.isSound(), true);
        office.claim(0, 0, 99999);
        check.due("41: a claim that is too high", office.isSound(), true);
        office.settle(0, 0);
        check.due("41: settled", office.isSound(), true);
        check.due("41: no more than what is owed was paid", office.paid(0), 2000);
    }
}
