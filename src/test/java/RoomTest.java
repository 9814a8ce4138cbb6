import java.lang.management.ManagementFactory;

/** No call makes objects, whatever is asked: all that an office needs is made with it. */
final class RoomTest {
    private static final int TURNS = 2000;
    /** Far under one object a turn, and some room for what the machine itself makes beside. */
    private static final int MOST_BYTES = TURNS * 8;

    private RoomTest() {
    }

    static void runAll(Check check) {
        com.sun.management.ThreadMXBean beans =
            (com.sun.management.ThreadMXBean) ManagementFactory.getThreadMXBean();
        LinageOffice office = fullOffice();
        ask(office, 3);
        long thread = Thread.currentThread().getId();
        long before = beans.getThreadAllocatedBytes(thread);
        ask(office, TURNS);
        long made = beans.getThreadAllocatedBytes(thread) - before;
        check.due("bytes that " + TURNS + " turns make, " + made + ", are few", made < MOST_BYTES, true);
        check.due("41: a full office is sound", office.isSound(), true);
    }

    private static LinageOffice fullOffice() {
        LinageOffice office = new LinageOffice();
        for (int i = 0; i < 8; i++) {
            office.addHand();
        }
        for (int i = 0; i < 30; i++) {
            office.addWord(1 + i % 3, "fetqh".charAt(i % 5), i % 10);
        }
        for (int i = 0; i < 5; i++) {
            office.addPaper(i % 3, 40, 99, 0, 100);
        }
        for (int story = 0; story < 20; story++) {
            office.file(story % 8, 0);
            for (int i = 0; i < 60; i++) {
                office.write(story, (i * (story + 1) + i / 7) % 30);
            }
        }
        for (int i = 0; i < 30; i++) {
            office.run(i % 10, i / 10, 99 - i);
        }
        return office;
    }

    private static void ask(LinageOffice office, int turns) {
        for (int i = 0; i < turns; i++) {
            int story = i % 20;
            int paper = i % 5;
            office.correct(10 + i % 10, i % 60, i % 30);
            office.count(story, paper);
            office.lines(story, paper);
            office.badness(story, paper);
            office.fits(story, paper, i % 100);
            office.breaches(story, paper);
            office.claim(i % 8, paper, i);
            office.owed(paper, i % 8);
            office.settle(i % 8, paper);
            office.padding(story);
            office.likeness(story, (i + 1) % 20);
            office.sources(0);
            office.areOne(0, 19);
            office.known(0);
            office.contradictions(0);
            office.checksum();
            office.ranShare();
            office.meanPay();
            office.isSound();
        }
    }
}
