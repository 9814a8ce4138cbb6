import java.util.ArrayList;
import java.util.List;
import java.util.function.Function;
import java.util.function.Supplier;

/**
 * All that an office answers, a row for each call: as it is, and again with one more of each thing, so that nothing
 * is left over for that. No office is asked too much (it is used for 512 calls), and some calls change what they tell;
 * so a new one is made for each part.
 */
final class State {
    private static final int MOST_STORIES = 20;
    private static final int MOST_PAPERS = 5;
    private static final int MOST_HANDS = 8;
    private static final int MOST_WORDS = 30;
    private static final int MOST_RUNS = 30;

    private final Supplier<LinageOffice> maker;
    private final List<String> rows = new ArrayList<>();
    private LinageOffice office;
    private boolean isWithMore;

    private State(Supplier<LinageOffice> maker) {
        this.maker = maker;
    }

    static List<String> of(Supplier<LinageOffice> maker) {
        State state = new State(maker);
        state.allParts();
        state.topics();
        state.isWithMore = true;
        state.allParts();
        return state.rows;
    }

    /** The first row in which the two are unlike, or nothing. */
    static String difference(List<String> got, List<String> want) {
        for (int i = 0; i < Math.min(got.size(), want.size()); i++) {
            if (!got.get(i).equals(want.get(i))) {
                return got.get(i) + ", not " + want.get(i);
            }
        }
        return got.size() == want.size() ? "" : got.size() + " rows, not " + want.size();
    }

    private void allParts() {
        figures();
        facts();
        stories();
        papers();
        switches();
        claims();
        runs();
    }

    private void begin() {
        office = maker.get();
        if (isWithMore) {
            ask("strike", o -> o.setStrike(false));
            ask("addWord", o -> o.addWord(7, 'e', 1));
            ask("addHand", LinageOffice::addHand);
            ask("addPaper", o -> o.addPaper(1, 12, 1, 0, 0));
            ask("file", o -> o.file(0, 9));
            ask("fork", o -> o.fork(0, 0));
            ask("write", o -> o.write(newest(), 0));
        }
    }

    private void ask(String told, Function<LinageOffice, Object> call) {
        rows.add(told + " = " + Answer.of(() -> call.apply(office)));
    }

    private void figures() {
        begin();
        ask("hour", LinageOffice::hour);
        ask("checksum", LinageOffice::checksum);
        ask("ranShare", LinageOffice::ranShare);
        ask("meanPay", LinageOffice::meanPay);
        ask("isSound", LinageOffice::isSound);
        for (int i = 0; i < MOST_HANDS; i++) {
            int hand = i;
            ask("paid " + hand, o -> o.paid(hand));
        }
        debts();
        for (int i = 0; i < MOST_RUNS; i++) {
            int run = i;
            ask("ran " + run, o -> o.ran(run));
            ask("pay " + run, o -> o.pay(run));
        }
    }

    private void facts() {
        begin();
        for (int i = 0; i < MOST_WORDS; i++) {
            int word = i;
            ask("known " + word, o -> o.known(word));
            ask("first " + word, o -> o.first(word));
        }
        for (int i = 0; i < 10; i++) {
            int event = i;
            ask("sources " + event, o -> o.sources(event));
            ask("contradictions " + event, o -> o.contradictions(event));
        }
    }

    /** Which facts contradict each other, told one after the other, from the first and from the last. */
    private void topics() {
        for (int i = 0; i < 2; i++) {
            boolean isBackward = i == 1;
            begin();
            // Not with one word more: where that is refused, it may hide what the call before has changed.
            ask("strike", o -> o.setStrike(false));
            ask("addHand", LinageOffice::addHand);
            ask("file", o -> o.file(0, 9));
            int story = newest();
            for (int k = 0; k < MOST_WORDS; k++) {
                int word = isBackward ? MOST_WORDS - 1 - k : k;
                ask("write " + story + " " + word, o -> o.write(story, word));
                ask("contradictions, with " + word, o -> o.contradictions(9));
            }
        }
    }

    private void stories() {
        for (int i = 0; i < MOST_STORIES; i++) {
            int story = i;
            begin();
            ask("length " + story, o -> o.length(story));
            ask("depth " + story, o -> o.depth(story));
            ask("padding " + story, o -> o.padding(story));
            ask("shingles " + story, o -> o.shingles(story));
            if (!isThere(story)) {
                continue;
            }
            int length = office.length(story);
            for (int k = 0; k < length; k++) {
                int index = k;
                ask("wordAt " + story + " " + index, o -> o.wordAt(story, index));
                ask("isPadding " + story + " " + index, o -> o.isPadding(story, index));
            }
            for (int k = 0; k < MOST_STORIES; k++) {
                int other = k;
                ask("likeness " + story + " " + other, o -> o.likeness(story, other));
                ask("areOne " + story + " " + other, o -> o.areOne(story, other));
            }
        }
    }

    private void papers() {
        for (int i = 0; i < MOST_PAPERS; i++) {
            int paper = i;
            begin();
            for (int k = 0; k < MOST_STORIES; k++) {
                int story = k;
                String told = " " + story + " " + paper;
                ask("count" + told, o -> o.count(story, paper));
                ask("lines" + told, o -> o.lines(story, paper));
                ask("badness" + told, o -> o.badness(story, paper));
                ask("fits 2" + told, o -> o.fits(story, paper, 2));
                ask("breaches" + told, o -> o.breaches(story, paper));
            }
        }
    }

    private void switches() {
        begin();
        ask("strike as it is", o -> o.setStrike(false));
        for (int i = 0; i < MOST_STORIES; i++) {
            int story = i;
            ask("exclusive " + story, o -> o.setExclusive(story, false));
        }
        for (int i = 0; i < MOST_PAPERS * MOST_WORDS; i++) {
            int paper = i / MOST_WORDS;
            int word = i % MOST_WORDS;
            ask("ban " + paper + " " + word, o -> o.ban(paper, word, false));
        }
    }

    private void claims() {
        begin();
        for (int i = 0; i < MOST_HANDS * MOST_PAPERS; i++) {
            int hand = i / MOST_PAPERS;
            int paper = i % MOST_PAPERS;
            ask("claim " + hand + " " + paper, o -> o.claim(hand, paper, 0));
        }
    }

    /** What else can run, for which pay, and to whom it is owed: this tells what ran, and when, and by whom it is. */
    private void runs() {
        for (int i = 0; i < 2; i++) {
            int hours = 11 + i;
            boolean isBackward = i == 1;
            begin();
            office.pass(hours);
            for (int k = 0; k < MOST_STORIES * MOST_PAPERS; k++) {
                int place = isBackward ? MOST_STORIES * MOST_PAPERS - 1 - k : k;
                int story = place / MOST_PAPERS;
                int paper = place % MOST_PAPERS;
                ask("run " + story + " " + paper + " later by " + hours, o -> o.pay(o.run(story, paper, 3)));
            }
            debts();
        }
    }

    private void debts() {
        for (int i = 0; i < MOST_HANDS * MOST_PAPERS; i++) {
            int hand = i / MOST_PAPERS;
            int paper = i % MOST_PAPERS;
            ask("owed " + paper + " " + hand, o -> o.owed(paper, hand));
        }
    }

    private int newest() {
        for (int i = MOST_STORIES - 1; i > 0; i--) {
            if (isThere(i)) {
                return i;
            }
        }
        return 0;
    }

    private boolean isThere(int story) {
        return !Answer.of(() -> office.length(story)).startsWith("throws");
    }
}
