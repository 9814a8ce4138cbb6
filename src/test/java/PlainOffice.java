import java.util.ArrayList;
import java.util.HashSet;
import java.util.List;
import java.util.NoSuchElementException;
import java.util.Set;

/** The document once more, written as plainly as can be and in other ways than the class, to compare with it. */
public final class PlainOffice {
    private record Word(int letters, char kind, int topic) {
    }

    private record Paper(int rule, int measure, int rate, int least, int extra) {
    }

    private record Run(int story, int paper, int lines, int hour) {
    }

    private static final class Story {
        final int hand;
        final int event;
        final int filed;
        final int source;
        final List<Integer> words = new ArrayList<>();
        boolean exclusive;

        Story(int hand, int event, int filed, int source) {
            this.hand = hand;
            this.event = event;
            this.filed = filed;
            this.source = source;
        }
    }

    private final List<Word> words = new ArrayList<>();
    private final List<Story> stories = new ArrayList<>();
    private final List<Paper> papers = new ArrayList<>();
    private final List<Run> runs = new ArrayList<>();
    private final Set<Integer> settled = new HashSet<>();
    private final Set<List<Integer>> bars = new HashSet<>();
    private final int[][] claims = new int[8][5];
    private final List<Long> paidTo = new ArrayList<>();
    private boolean strike;
    private int now;

    public int addWord(int letters, char kind, int topic) {
        argument("fetqh".indexOf(kind) >= 0 && letters >= 1 && letters <= 12 && topic >= 0 && topic <= 9);
        state(words.size() < 30);
        words.add(new Word(letters, kind, topic));
        return words.size() - 1;
    }

    public int addHand() {
        state(paidTo.size() < 8);
        paidTo.add(0L);
        return paidTo.size() - 1;
    }

    public int file(int hand, int event) {
        bounds(hand, paidTo);
        argument(event >= 0 && event <= 9);
        supported(!strike);
        state(stories.size() < 20);
        stories.add(new Story(hand, event, now, -1));
        return stories.size() - 1;
    }

    public int fork(int hand, int story) {
        bounds(hand, paidTo);
        bounds(story, stories);
        supported(!strike);
        state(stories.size() < 20);
        Story version = new Story(hand, stories.get(story).event, now, story);
        version.words.addAll(stories.get(story).words);
        stories.add(version);
        return stories.size() - 1;
    }

    public int write(int story, int word) {
        bounds(story, stories);
        bounds(word, words);
        supported(!didRun(story));
        state(stories.get(story).words.size() < 60);
        stories.get(story).words.add(word);
        return stories.get(story).words.size();
    }

    public int correct(int story, int index, int word) {
        bounds(story, stories);
        bounds(word, words);
        element(index >= 0 && index < stories.get(story).words.size());
        supported(!didRun(story));
        return stories.get(story).words.set(index, word);
    }

    public int length(int story) {
        bounds(story, stories);
        return stories.get(story).words.size();
    }

    public int wordAt(int story, int index) {
        bounds(story, stories);
        element(index >= 0 && index < stories.get(story).words.size());
        return stories.get(story).words.get(index);
    }

    public int depth(int story) {
        bounds(story, stories);
        return lineage(story).size() - 1;
    }

    public boolean setStrike(boolean is) {
        boolean was = strike;
        strike = is;
        return was;
    }

    public int pass(int hours) {
        argument(hours >= 1 && hours <= 99);
        now += hours;
        return now;
    }

    public int hour() {
        return now;
    }

    public int addPaper(int rule, int measure, int rate, int least, int extra) {
        argument(rule >= 0 && rule <= 2 && measure >= 12 && measure <= 40 && rate >= 1 && rate <= 99);
        argument(least >= 0 && least <= 999 && extra >= 0 && extra <= 100);
        state(papers.size() < 5);
        papers.add(new Paper(rule, measure, rate, least, extra));
        return papers.size() - 1;
    }

    public int count(int story, int paper) {
        bounds(story, stories);
        bounds(paper, papers);
        return counted(stories.get(story).words, papers.get(paper));
    }

    public int lines(int story, int paper) {
        bounds(story, stories);
        bounds(paper, papers);
        return (int) (best(stories.get(story).words, papers.get(paper).measure) % 1000);
    }

    public int badness(int story, int paper) {
        bounds(story, stories);
        bounds(paper, papers);
        return (int) (best(stories.get(story).words, papers.get(paper).measure) / 1000);
    }

    public int fits(int story, int paper, int lines) {
        bounds(story, stories);
        bounds(paper, papers);
        argument(lines >= 0 && lines <= 99);
        return fitted(story, paper, lines);
    }

    public boolean ban(int paper, int word, boolean is) {
        bounds(paper, papers);
        bounds(word, words);
        List<Integer> bar = List.of(paper, word);
        return is ? !bars.add(bar) : bars.remove(bar);
    }

    public int breaches(int story, int paper) {
        bounds(story, stories);
        bounds(paper, papers);
        return (int) stories.get(story).words.stream().filter(word -> bars.contains(List.of(paper, word))).count();
    }

    public boolean setExclusive(int story, boolean is) {
        bounds(story, stories);
        supported(!didRun(story));
        boolean was = stories.get(story).exclusive;
        stories.get(story).exclusive = is;
        return was;
    }

    public int run(int story, int paper, int lines) {
        bounds(story, stories);
        bounds(paper, papers);
        argument(lines >= 1 && lines <= 99);
        supported(fitted(story, paper, lines) > 0 && breaches(story, paper) == 0);
        for (Run run : runs) {
            supported(run.story != story || run.paper != paper);
            supported(run.story != story || !stories.get(story).exclusive || run.hour + 12 <= now);
        }
        state(runs.size() < 30);
        runs.add(new Run(story, paper, lines, now));
        return runs.size() - 1;
    }

    public int ran(int run) {
        bounds(run, runs);
        return fitted(runs.get(run).story, runs.get(run).paper, runs.get(run).lines);
    }

    public int pay(int run) {
        bounds(run, runs);
        Run paidRun = runs.get(run);
        Paper paper = papers.get(paidRun.paper);
        int whole = paper.rate * counted(stories.get(paidRun.story).words.subList(0, ran(run)), paper);
        whole = whole < paper.least ? paper.least : whole;
        int ofDay = paidRun.hour % 24;
        if (ofDay < 5 || ofDay == 22 || ofDay == 23) {
            whole = whole + (int) ((long) whole * paper.extra / 100);
        }
        for (int i = 0; i < run; i++) {
            int other = runs.get(i).story;
            boolean isOne = lineage(other).contains(paidRun.story) || lineage(paidRun.story).contains(other);
            if (isOne && runs.get(i).paper != paidRun.paper) {
                return whole / 2;
            }
        }
        return whole;
    }

    public int owed(int paper, int hand) {
        bounds(paper, papers);
        bounds(hand, paidTo);
        int sum = 0;
        for (int i = 0; i < runs.size(); i++) {
            boolean isTheirs = runs.get(i).paper == paper && stories.get(runs.get(i).story).hand == hand;
            sum += isTheirs && !settled.contains(i) ? pay(i) : 0;
        }
        return sum;
    }

    public int claim(int hand, int paper, int sum) {
        bounds(hand, paidTo);
        bounds(paper, papers);
        argument(sum >= 0 && sum <= 99999);
        int before = claims[hand][paper];
        claims[hand][paper] = sum;
        return before;
    }

    public int settle(int hand, int paper) {
        bounds(hand, paidTo);
        bounds(paper, papers);
        int due = owed(paper, hand);
        int claimed = claim(hand, paper, 0);
        paidTo.set(hand, paidTo.get(hand) + (due < claimed ? due : claimed));
        for (int i = 0; i < runs.size(); i++) {
            if (runs.get(i).paper == paper && stories.get(runs.get(i).story).hand == hand) {
                settled.add(i);
            }
        }
        return due - claimed;
    }

    public long paid(int hand) {
        bounds(hand, paidTo);
        return paidTo.get(hand);
    }

    public int padding(int story) {
        bounds(story, stories);
        int sum = 0;
        for (int i = 0; i < length(story); i++) {
            sum += isPadding(story, i) ? 1 : 0;
        }
        return sum;
    }

    public boolean isPadding(int story, int index) {
        int word = wordAt(story, index);
        List<Integer> text = stories.get(story).words;
        switch (words.get(word).kind) {
            case 'e':
                return true;
            case 't':
                return index == text.size() - 1 || "fq".indexOf(words.get(text.get(index + 1)).kind) < 0;
            case 'f':
                return text.subList(0, index).contains(word);
            default:
                return false;
        }
    }

    public int shingles(int story) {
        bounds(story, stories);
        return rows(story).size();
    }

    public int likeness(int story, int other) {
        bounds(story, stories);
        bounds(other, stories);
        Set<List<Integer>> both = new HashSet<>(rows(story));
        both.retainAll(rows(other));
        Set<List<Integer>> either = new HashSet<>(rows(story));
        either.addAll(rows(other));
        return either.isEmpty() ? 0 : 100 * both.size() / either.size();
    }

    public int sources(int event) {
        argument(event >= 0 && event <= 9);
        boolean[][] joined = joined();
        int sum = 0;
        for (int i = 0; i < stories.size(); i++) {
            boolean isFirst = stories.get(i).event == event;
            for (int k = 0; k < i; k++) {
                isFirst &= !joined[k][i];
            }
            sum += isFirst ? 1 : 0;
        }
        return sum;
    }

    public boolean areOne(int story, int other) {
        bounds(story, stories);
        bounds(other, stories);
        return joined()[story][other];
    }

    public int known(int word) {
        return stories.get(first(word)).filed;
    }

    public int first(int word) {
        bounds(word, words);
        supported(words.get(word).kind == 'f');
        for (int hour = 0; hour <= now; hour++) {
            for (int i = 0; i < stories.size(); i++) {
                if (stories.get(i).filed == hour && stories.get(i).words.contains(word)) {
                    return i;
                }
            }
        }
        throw new NoSuchElementException();
    }

    public int contradictions(int event) {
        argument(event >= 0 && event <= 9);
        Set<Integer> topics = new HashSet<>();
        for (int fact : factsOf(event)) {
            for (int other : factsOf(event)) {
                if (fact != other && words.get(fact).topic == words.get(other).topic) {
                    topics.add(words.get(fact).topic);
                }
            }
        }
        return topics.size();
    }

    public long checksum() {
        List<Long> terms = new ArrayList<>();
        for (Story story : stories) {
            story.words.forEach(word -> terms.add((long) word));
            terms.add((long) story.filed);
        }
        for (int i = 0; i < runs.size(); i++) {
            terms.add((long) pay(i));
        }
        terms.addAll(paidTo);
        terms.add((long) now);
        return terms.stream().reduce(7L, (sum, term) -> 31 * sum + term);
    }

    public float ranShare() {
        arithmetic(!stories.isEmpty());
        int sum = 0;
        for (int i = 0; i < stories.size(); i++) {
            sum += didRun(i) ? 1 : 0;
        }
        return (float) sum / (float) stories.size();
    }

    public double meanPay() {
        arithmetic(!runs.isEmpty());
        long sum = 0;
        for (int i = 0; i < runs.size(); i++) {
            sum += pay(i);
        }
        return (double) sum / (double) runs.size();
    }

    public boolean isSound() {
        return true;
    }

    private static void argument(boolean holds) {
        if (!holds) {
            throw new IllegalArgumentException();
        }
    }

    private static void state(boolean holds) {
        if (!holds) {
            throw new IllegalStateException();
        }
    }

    private static void supported(boolean holds) {
        if (!holds) {
            throw new UnsupportedOperationException();
        }
    }

    private static void element(boolean holds) {
        if (!holds) {
            throw new NoSuchElementException();
        }
    }

    private static void arithmetic(boolean holds) {
        if (!holds) {
            throw new ArithmeticException();
        }
    }

    private static void bounds(int number, List<?> list) {
        if (number < 0 || number >= list.size()) {
            throw new IndexOutOfBoundsException();
        }
    }

    private boolean didRun(int story) {
        return runs.stream().anyMatch(run -> run.story == story);
    }

    private Set<Integer> lineage(int story) {
        Set<Integer> line = new HashSet<>();
        for (int at = story; at >= 0; at = stories.get(at).source) {
            line.add(at);
        }
        return line;
    }

    private int counted(List<Integer> text, Paper paper) {
        StringBuilder set = new StringBuilder();
        int parts = 0;
        for (int word : text) {
            set.append(set.length() == 0 ? "" : " ").append("x".repeat(words.get(word).letters));
            parts += words.get(word).kind == 'h' ? 2 : 1;
        }
        return paper.rule == 0 ? parts : paper.rule == 1 ? set.length() : (int) (best(text, paper.measure) % 1000);
    }

    /** The least badness times 1000, and with it the fewest lines, of settings from the last word back. */
    private long best(List<Integer> text, int measure) {
        long[] behind = new long[text.size() + 1];
        for (int begin = text.size() - 1; begin >= 0; begin--) {
            behind[begin] = Long.MAX_VALUE;
            int signs = -1;
            for (int end = begin + 1; end <= text.size(); end++) {
                signs += 1 + words.get(text.get(end - 1)).letters;
                long left = end == text.size() ? 0 : measure - signs;
                if (signs <= measure) {
                    behind[begin] = Math.min(behind[begin], 1000 * left * left + 1 + behind[end]);
                }
            }
        }
        return behind[0];
    }

    private int fitted(int story, int paper, int lines) {
        int most = 0;
        List<Integer> text = stories.get(story).words;
        for (int size = 0; size <= text.size(); size++) {
            if (best(text.subList(0, size), papers.get(paper).measure) % 1000 <= lines) {
                most = size;
            }
        }
        return most;
    }

    private Set<List<Integer>> rows(int story) {
        List<Integer> text = stories.get(story).words;
        Set<List<Integer>> rows = new HashSet<>();
        for (int i = 0; i + 3 <= text.size(); i++) {
            rows.add(List.copyOf(text.subList(i, i + 3)));
        }
        return rows;
    }

    private boolean[][] joined() {
        int size = stories.size();
        boolean[][] joined = new boolean[size][size];
        for (int i = 0; i < size; i++) {
            for (int k = 0; k < size; k++) {
                joined[i][k] = i == k || stories.get(i).event == stories.get(k).event && likeness(i, k) >= 50;
            }
        }
        for (int by = 0; by < size; by++) {
            for (int i = 0; i < size; i++) {
                for (int k = 0; k < size; k++) {
                    joined[i][k] |= joined[i][by] && joined[by][k];
                }
            }
        }
        return joined;
    }

    private Set<Integer> factsOf(int event) {
        Set<Integer> facts = new HashSet<>();
        for (Story story : stories) {
            for (int word : story.words) {
                if (story.event == event && words.get(word).kind == 'f') {
                    facts.add(word);
                }
            }
        }
        return facts;
    }
}
