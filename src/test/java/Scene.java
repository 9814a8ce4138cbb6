import java.util.List;
import java.util.function.Consumer;
import java.util.function.Supplier;

/** A way to make an office, always the same; so what a call changes is seen on two of them, with it and without it. */
final class Scene {
    static final Scene FRESH = new Scene(LinageOffice::new);
    /** A few of everything: 6 words, 2 hands, 4 stories, 3 papers, a run. */
    static final Scene DESK = new Scene(Scene::desk);
    /** As many words, hands, stories and papers as there can be; no runs, and one story a word short of 60. */
    static final Scene READY = new Scene(Scene::ready);
    /** As READY, with 60 words in that story and 30 runs, some of them settled. */
    static final Scene FULL = READY.and(Scene::fill);

    private final Supplier<LinageOffice> maker;
    private List<String> state;

    private Scene(Supplier<LinageOffice> maker) {
        this.maker = maker;
    }

    LinageOffice made() {
        return maker.get();
    }

    /** This one, and more calls behind it. */
    Scene and(Consumer<LinageOffice> calls) {
        return new Scene(() -> {
            LinageOffice office = made();
            calls.accept(office);
            return office;
        });
    }

    /** All that such an office answers. */
    List<String> state() {
        if (state == null) {
            state = State.of(maker);
        }
        return state;
    }

    /** In hour 12: story 0 is whole, 1 has no words, 2 ran, 3 is a version of 0. */
    private static LinageOffice desk() {
        LinageOffice office = new LinageOffice();
        office.pass(12);
        for (int i = 0; i < 6; i++) {
            office.addWord(2 + i, "fetqhf".charAt(i), i % 5);
        }
        office.addHand();
        office.addHand();
        office.addPaper(0, 12, 7, 0, 50);
        office.addPaper(1, 20, 3, 5, 10);
        office.addPaper(2, 40, 9, 100, 100);
        Desk.story(office, 0, 0, 1, 2, 3, 4, 0);
        office.file(1, 0);
        office.file(1, 1);
        for (int i = 0; i < 3; i++) {
            office.write(2, i);
        }
        office.fork(1, 0);
        office.setExclusive(2, true);
        office.run(2, 0, 9);
        office.ban(1, 4, true);
        office.claim(1, 0, 4);
        return office;
    }

    /**
     * Word i has 1 + i % 12 letters and topic i % 10; all are facts, but for words 1 to 4. Story i is of hand i % 8 and
     * event i % 10, with the words 0 and 5 + i; but 9 has word 0 alone, 18 none, and 19, a version of 18 by hand 7 an
     * hour later, has the words 0 to 29 and 0 to 28. Story 5 is exclusive; paper 0 bars a word of story 10.
     */
    private static LinageOffice ready() {
        LinageOffice office = new LinageOffice();
        office.pass(12);
        for (int i = 0; i < 30; i++) {
            office.addWord(1 + i % 12, i > 0 && i < 5 ? "etqh".charAt(i - 1) : 'f', i % 10);
        }
        for (int i = 0; i < 8; i++) {
            office.addHand();
        }
        for (int i = 0; i < 5; i++) {
            office.addPaper(i % 3, 12 + 7 * i, 10 + i, 0, 50);
        }
        for (int i = 0; i < 19; i++) {
            office.file(i % 8, i % 10);
            for (int k = 0; k < (i == 18 ? 0 : i == 9 ? 1 : 2); k++) {
                office.write(i, k * (5 + i));
            }
        }
        office.pass(1);
        office.fork(7, 18);
        for (int i = 0; i < 59; i++) {
            office.write(19, i % 30);
        }
        office.setExclusive(5, true);
        office.ban(0, 15, true);
        return office;
    }

    /** Stories 0 to 4 run in all papers, 5 to 9 in paper 0; what papers 0 and 1 owe some hands is settled. */
    private static void fill(LinageOffice office) {
        office.write(19, 29);
        for (int i = 0; i < 25; i++) {
            office.run(i / 5, i % 5, 99);
        }
        for (int i = 5; i < 10; i++) {
            office.run(i, 0, 99);
        }
        office.claim(0, 1, 44);
        office.settle(0, 1);
        office.claim(7, 0, 100);
        office.settle(7, 0);
        office.claim(0, 0, 1);
        office.claim(7, 4, 99999);
    }
}
