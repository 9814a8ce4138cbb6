import java.util.NoSuchElementException;

/** An office for news that is paid by the line. The document DOC.md says what each call answers. */
public final class LinageOffice {
    private static final int NONE = -1;

    private static final int MOST_WORDS = 30;
    private static final int MOST_LETTERS = 12;
    private static final int MOST_HANDS = 8;
    private static final int MOST_STORIES = 20;
    private static final int MOST_LENGTH = 60;
    private static final int MOST_PAPERS = 5;
    private static final int MOST_RUNS = 30;

    private static final int LAST_TOPIC = 9;
    private static final int LAST_EVENT = 9;
    private static final int MOST_HOURS = 99;
    private static final int MOST_LINES = 99;
    private static final int MOST_CLAIM = 99999;

    private static final int BY_WORDS = 0;
    private static final int BY_SIGNS = 1;
    private static final int BY_LINES = 2;
    private static final int LEAST_MEASURE = 12;
    private static final int MOST_MEASURE = 40;
    private static final int MOST_RATE = 99;
    private static final int MOST_LEAST_PAY = 999;
    private static final int HUNDREDTHS = 100;

    private static final int HOURS_A_DAY = 24;
    private static final int NIGHT_BEGINS = 22;
    private static final int NIGHT_ENDS = 5;
    private static final int EXCLUSIVE_HOURS = 12;

    private static final int SHINGLE = 3;
    private static final int ALIKE_FROM = 50;

    private final Word[] words = new Word[MOST_WORDS];
    private final Story[] stories = new Story[MOST_STORIES];
    private final Paper[] papers = new Paper[MOST_PAPERS];
    private final Run[] runs = new Run[MOST_RUNS];
    private final long[] paidTo = new long[MOST_HANDS];
    private final Setting setting = new Setting();
    private final int[] groups = new int[MOST_STORIES];
    private final int[] waiting = new int[MOST_STORIES];
    private int wordCount;
    private int handCount;
    private int storyCount;
    private int paperCount;
    private int runCount;
    private int now;
    private boolean strike;

    // All objects are made here, so that no later call makes any and no element is ever null.
    public LinageOffice() {
        for (int i = 0; i < MOST_WORDS; i++) {
            words[i] = new Word();
        }
        for (int i = 0; i < MOST_STORIES; i++) {
            stories[i] = new Story();
        }
        for (int i = 0; i < MOST_PAPERS; i++) {
            papers[i] = new Paper();
        }
        for (int i = 0; i < MOST_RUNS; i++) {
            runs[i] = new Run();
        }
    }

    // ---- words, hands, stories

    public int addWord(int letters, char kind, int topic) throws IllegalArgumentException, IllegalStateException {
        if (!isKind(kind)) {
            throw new IllegalArgumentException("there is no such kind of word");
        }
        needRange(letters, 1, MOST_LETTERS);
        needRange(topic, 0, LAST_TOPIC);
        if (wordCount >= MOST_WORDS) {
            throw new IllegalStateException("there are 30 words");
        }
        Word added = words[wordCount];
        added.letters = letters;
        added.kind = kind;
        added.topic = topic;
        wordCount++;
        return wordCount - 1;
    }

    public int addHand() throws IllegalStateException {
        if (handCount >= MOST_HANDS) {
            throw new IllegalStateException("there are 8 hands");
        }
        handCount++;
        return handCount - 1;
    }

    public int file(int hand, int event) throws IndexOutOfBoundsException, IllegalArgumentException,
            UnsupportedOperationException, IllegalStateException {
        needHand(hand);
        needRange(event, 0, LAST_EVENT);
        needRoomForStory();
        return addStory(hand, event, NONE);
    }

    public int fork(int hand, int story) throws IndexOutOfBoundsException, UnsupportedOperationException,
            IllegalStateException {
        needHand(hand);
        needStory(story);
        needRoomForStory();
        Story source = stories[story];
        int version = addStory(hand, source.event, story);
        for (int i = 0; i < source.size; i++) {
            stories[version].append(source.text[i]);
        }
        return version;
    }

    public int write(int story, int word) throws IndexOutOfBoundsException, UnsupportedOperationException,
            IllegalStateException {
        needStory(story);
        needWord(word);
        needNeverRan(story);
        Story written = stories[story];
        if (written.size >= MOST_LENGTH) {
            throw new IllegalStateException("the story has 60 words");
        }
        written.append(word);
        return written.size;
    }

    public int correct(int story, int index, int word) throws IndexOutOfBoundsException, NoSuchElementException,
            UnsupportedOperationException {
        needStory(story);
        needWord(word);
        needPlace(story, index);
        needNeverRan(story);
        return stories[story].replace(index, word);
    }

    public int length(int story) throws IndexOutOfBoundsException {
        needStory(story);
        return stories[story].size;
    }

    public int wordAt(int story, int index) throws IndexOutOfBoundsException, NoSuchElementException {
        needStory(story);
        needPlace(story, index);
        return stories[story].text[index];
    }

    public int depth(int story) throws IndexOutOfBoundsException {
        needStory(story);
        int sources = 0;
        for (int i = 0; i < storyCount; i++) {
            if (comesFrom(story, i)) {
                sources++;
            }
        }
        return sources;
    }

    public boolean setStrike(boolean is) {
        boolean was = strike;
        strike = is;
        return was;
    }

    public int pass(int hours) throws IllegalArgumentException {
        needRange(hours, 1, MOST_HOURS);
        now += hours;
        return now;
    }

    public int hour() {
        return now;
    }

    // ---- papers, lines

    public int addPaper(int rule, int measure, int rate, int least, int extra) throws IllegalArgumentException,
            IllegalStateException {
        needRange(rule, BY_WORDS, BY_LINES);
        needRange(measure, LEAST_MEASURE, MOST_MEASURE);
        needRange(rate, 1, MOST_RATE);
        needRange(least, 0, MOST_LEAST_PAY);
        needRange(extra, 0, HUNDREDTHS);
        if (paperCount >= MOST_PAPERS) {
            throw new IllegalStateException("there are 5 papers");
        }
        Paper added = papers[paperCount];
        added.rule = rule;
        added.measure = measure;
        added.rate = rate;
        added.leastPay = least;
        added.nightExtra = extra;
        paperCount++;
        return paperCount - 1;
    }

    public int count(int story, int paper) throws IndexOutOfBoundsException {
        needStory(story);
        needPaper(paper);
        return counted(stories[story], papers[paper], stories[story].size);
    }

    public int lines(int story, int paper) throws IndexOutOfBoundsException {
        needStory(story);
        needPaper(paper);
        return linesOfFirst(stories[story], papers[paper], stories[story].size);
    }

    public int badness(int story, int paper) throws IndexOutOfBoundsException {
        needStory(story);
        needPaper(paper);
        setting.arrange(stories[story], words, papers[paper].measure);
        return setting.badnessOf[stories[story].size];
    }

    public int fits(int story, int paper, int lines) throws IndexOutOfBoundsException, IllegalArgumentException {
        needStory(story);
        needPaper(paper);
        needRange(lines, 0, MOST_LINES);
        return fitting(stories[story], papers[paper], lines);
    }

    public boolean ban(int paper, int word, boolean is) throws IndexOutOfBoundsException {
        needPaper(paper);
        needWord(word);
        boolean was = papers[paper].barred[word];
        papers[paper].barred[word] = is;
        return was;
    }

    public int breaches(int story, int paper) throws IndexOutOfBoundsException {
        needStory(story);
        needPaper(paper);
        return barredWords(stories[story], papers[paper]);
    }

    // ---- runs, pay

    public boolean setExclusive(int story, boolean is) throws IndexOutOfBoundsException,
            UnsupportedOperationException {
        needStory(story);
        needNeverRan(story);
        boolean was = stories[story].exclusive;
        stories[story].exclusive = is;
        return was;
    }

    public int run(int story, int paper, int lines) throws IndexOutOfBoundsException, IllegalArgumentException,
            UnsupportedOperationException, IllegalStateException {
        needStory(story);
        needPaper(paper);
        needRange(lines, 1, MOST_LINES);
        int fitted = fitting(stories[story], papers[paper], lines);
        if (fitted == 0 || !mayRun(story, paper)) {
            throw new UnsupportedOperationException("the story may not run in that paper now");
        }
        if (runCount >= MOST_RUNS) {
            throw new IllegalStateException("there are 30 runs");
        }
        Run added = runs[runCount];
        added.story = story;
        added.paper = paper;
        added.room = lines;
        added.hour = now;
        added.size = fitted;
        added.sum = payFor(story, paper, fitted);
        runCount++;
        return runCount - 1;
    }

    public int ran(int run) throws IndexOutOfBoundsException {
        needRun(run);
        return runs[run].size;
    }

    public int pay(int run) throws IndexOutOfBoundsException {
        needRun(run);
        return runs[run].sum;
    }

    public int owed(int paper, int hand) throws IndexOutOfBoundsException {
        needPaper(paper);
        needHand(hand);
        return unsettled(paper, hand);
    }

    public int claim(int hand, int paper, int sum) throws IndexOutOfBoundsException, IllegalArgumentException {
        needHand(hand);
        needPaper(paper);
        needRange(sum, 0, MOST_CLAIM);
        int before = papers[paper].claims[hand];
        papers[paper].claims[hand] = sum;
        return before;
    }

    public int settle(int hand, int paper) throws IndexOutOfBoundsException {
        needHand(hand);
        needPaper(paper);
        int due = unsettled(paper, hand);
        int claimed = papers[paper].claims[hand];
        paidTo[hand] += Math.min(due, claimed);
        papers[paper].claims[hand] = 0;
        for (int i = 0; i < runCount; i++) {
            if (isBetween(runs[i], paper, hand)) {
                runs[i].settled = true;
            }
        }
        return due - claimed;
    }

    public long paid(int hand) throws IndexOutOfBoundsException {
        needHand(hand);
        return paidTo[hand];
    }

    // ---- padding, likeness, facts

    public int padding(int story) throws IndexOutOfBoundsException {
        needStory(story);
        int strikable = 0;
        for (int i = 0; i < stories[story].size; i++) {
            if (canBeStruck(stories[story], i)) {
                strikable++;
            }
        }
        return strikable;
    }

    public boolean isPadding(int story, int index) throws IndexOutOfBoundsException, NoSuchElementException {
        needStory(story);
        needPlace(story, index);
        return canBeStruck(stories[story], index);
    }

    public int shingles(int story) throws IndexOutOfBoundsException {
        needStory(story);
        return stories[story].shingleCount;
    }

    public int likeness(int story, int other) throws IndexOutOfBoundsException {
        needStory(story);
        needStory(other);
        return stories[story].likenessTo(stories[other]);
    }

    public int sources(int event) throws IllegalArgumentException {
        needRange(event, 0, LAST_EVENT);
        return groupsOf(event);
    }

    public boolean areOne(int story, int other) throws IndexOutOfBoundsException {
        needStory(story);
        needStory(other);
        clearGroups();
        gather(story);
        return groups[other] == story;
    }

    public int known(int word) throws IndexOutOfBoundsException, UnsupportedOperationException,
            NoSuchElementException {
        return stories[firstWith(word)].filed;
    }

    public int first(int word) throws IndexOutOfBoundsException, UnsupportedOperationException,
            NoSuchElementException {
        return firstWith(word);
    }

    public int contradictions(int event) throws IllegalArgumentException {
        needRange(event, 0, LAST_EVENT);
        int told = factsOf(event);
        int contradicted = 0;
        for (int topic = 0; topic <= LAST_TOPIC; topic++) {
            if (Integer.bitCount(told & factsOn(topic)) > 1) {
                contradicted++;
            }
        }
        return contradicted;
    }

    // ---- figures

    public long checksum() {
        long sum = 7;
        for (int i = 0; i < storyCount; i++) {
            for (int k = 0; k < stories[i].size; k++) {
                sum = 31 * sum + stories[i].text[k];
            }
            sum = 31 * sum + stories[i].filed;
        }
        for (int i = 0; i < runCount; i++) {
            sum = 31 * sum + runs[i].sum;
        }
        for (int i = 0; i < handCount; i++) {
            sum = 31 * sum + paidTo[i];
        }
        return 31 * sum + now;
    }

    public float ranShare() throws ArithmeticException {
        if (storyCount == 0) {
            throw new ArithmeticException("there are no stories");
        }
        int thatRan = 0;
        for (int i = 0; i < storyCount; i++) {
            if (hasRun(i)) {
                thatRan++;
            }
        }
        return (float) thatRan / (float) storyCount;
    }

    public double meanPay() throws ArithmeticException {
        if (runCount == 0) {
            throw new ArithmeticException("there are no runs");
        }
        return (double) payOfAllRuns() / (double) runCount;
    }

    public boolean isSound() {
        for (int i = 0; i < runCount; i++) {
            if (!isSoundRun(i)) {
                return false;
            }
        }
        for (int i = 0; i < storyCount; i++) {
            int itself = stories[i].likenessTo(stories[i]);
            if (itself != 0 && itself != HUNDREDTHS || comesFrom(i, i)) {
                return false;
            }
        }
        return paidAndUnsettled() <= payOfAllRuns() && allGroups() <= storyCount;
    }

    // ---- what calls need of their arguments

    private static void needRange(int number, int least, int most) {
        if (number < least || number > most) {
            throw new IllegalArgumentException("a number is out of range");
        }
    }

    private void needWord(int word) {
        if (word < 0 || word >= wordCount) {
            throw new IndexOutOfBoundsException("there is no such word");
        }
    }

    private void needHand(int hand) {
        if (hand < 0 || hand >= handCount) {
            throw new IndexOutOfBoundsException("there is no such hand");
        }
    }

    private void needStory(int story) {
        if (story < 0 || story >= storyCount) {
            throw new IndexOutOfBoundsException("there is no such story");
        }
    }

    private void needPaper(int paper) {
        if (paper < 0 || paper >= paperCount) {
            throw new IndexOutOfBoundsException("there is no such paper");
        }
    }

    private void needRun(int run) {
        if (run < 0 || run >= runCount) {
            throw new IndexOutOfBoundsException("there is no such run");
        }
    }

    private void needPlace(int story, int index) {
        if (index < 0 || index >= stories[story].size) {
            throw new NoSuchElementException("the story has no word at that place");
        }
    }

    private void needFact(int word) {
        if (!words[word].isFact()) {
            throw new UnsupportedOperationException("the word is no fact");
        }
    }

    private void needNeverRan(int story) {
        if (hasRun(story)) {
            throw new UnsupportedOperationException("the story ran");
        }
    }

    private void needRoomForStory() {
        if (strike) {
            throw new UnsupportedOperationException("there is a strike");
        }
        if (storyCount >= MOST_STORIES) {
            throw new IllegalStateException("there are 20 stories");
        }
    }

    // ---- words and stories

    private static boolean isKind(char kind) {
        return kind == 'f' || kind == 'e' || kind == 't' || kind == 'q' || kind == 'h';
    }

    private int addStory(int hand, int event, int source) {
        Story added = stories[storyCount];
        added.hand = hand;
        added.event = event;
        added.source = source;
        added.filed = now;
        storyCount++;
        return storyCount - 1;
    }

    private boolean comesFrom(int story, int source) {
        int at = stories[story].source;
        for (int steps = 0; steps < MOST_STORIES && at != NONE; steps++) {
            if (at == source) {
                return true;
            }
            at = stories[at].source;
        }
        return false;
    }

    private boolean canBeStruck(Story story, int index) {
        int number = story.text[index];
        Word word = words[number];
        if (word.kind == 't') {
            return index + 1 >= story.size || !words[story.text[index + 1]].takesTitle();
        }
        return word.kind == 'e' || word.isFact() && story.firstPlaceOf(number) < index;
    }

    // ---- papers

    private int counted(Story story, Paper paper, int size) {
        if (paper.rule == BY_LINES) {
            return linesOfFirst(story, paper, size);
        }
        // Blanks stand between words only: one less than there are words, and none without words.
        int sum = paper.rule == BY_SIGNS ? Math.max(size - 1, 0) : 0;
        for (int i = 0; i < size; i++) {
            Word word = words[story.text[i]];
            sum += paper.rule == BY_SIGNS ? word.letters : word.parts();
        }
        return sum;
    }

    private int linesOfFirst(Story story, Paper paper, int size) {
        setting.arrange(story, words, paper.measure);
        return setting.linesOf[size];
    }

    private int fitting(Story story, Paper paper, int lines) {
        setting.arrange(story, words, paper.measure);
        for (int size = story.size; size > 0; size--) {
            if (setting.linesOf[size] <= lines) {
                return size;
            }
        }
        return 0;
    }

    private int barredWords(Story story, Paper paper) {
        int sum = 0;
        for (int i = 0; i < story.size; i++) {
            if (paper.barred[story.text[i]]) {
                sum++;
            }
        }
        return sum;
    }

    // ---- runs

    private boolean hasRun(int story) {
        for (int i = 0; i < runCount; i++) {
            if (runs[i].story == story) {
                return true;
            }
        }
        return false;
    }

    private boolean mayRun(int story, int paper) {
        if (barredWords(stories[story], papers[paper]) > 0) {
            return false;
        }
        for (int i = 0; i < runCount; i++) {
            if (runs[i].story == story && hinders(runs[i], paper)) {
                return false;
            }
        }
        return true;
    }

    private boolean hinders(Run earlier, int paper) {
        return earlier.paper == paper
                || stories[earlier.story].exclusive && now - earlier.hour < EXCLUSIVE_HOURS;
    }

    private int payFor(int story, int paper, int size) {
        Paper payer = papers[paper];
        int sum = Math.max(payer.rate * counted(stories[story], payer, size), payer.leastPay);
        if (isNight()) {
            sum += sum * payer.nightExtra / HUNDREDTHS;
        }
        return isSecondSale(story, paper) ? sum / 2 : sum;
    }

    private boolean isNight() {
        int hourOfDay = now % HOURS_A_DAY;
        return hourOfDay >= NIGHT_BEGINS || hourOfDay < NIGHT_ENDS;
    }

    private boolean isSecondSale(int story, int paper) {
        for (int i = 0; i < runCount; i++) {
            if (runs[i].paper != paper && areOfOneLine(runs[i].story, story)) {
                return true;
            }
        }
        return false;
    }

    private boolean areOfOneLine(int story, int other) {
        return story == other || comesFrom(story, other) || comesFrom(other, story);
    }

    private boolean isBetween(Run run, int paper, int hand) {
        return run.paper == paper && stories[run.story].hand == hand;
    }

    private int unsettled(int paper, int hand) {
        int sum = 0;
        for (int i = 0; i < runCount; i++) {
            if (!runs[i].settled && isBetween(runs[i], paper, hand)) {
                sum += runs[i].sum;
            }
        }
        return sum;
    }

    // ---- likeness

    private int groupsOf(int event) {
        clearGroups();
        int sum = 0;
        for (int i = 0; i < storyCount; i++) {
            if (stories[i].event == event && groups[i] == NONE) {
                gather(i);
                sum++;
            }
        }
        return sum;
    }

    private void clearGroups() {
        for (int i = 0; i < MOST_STORIES; i++) {
            groups[i] = NONE;
        }
    }

    // Puts a story, and all that are told as one with it, into the group that bears its number.
    private void gather(int story) {
        groups[story] = story;
        waiting[0] = story;
        int size = 1;
        for (int at = 0; at < size && at < MOST_STORIES; at++) {
            for (int i = 0; i < storyCount && size < MOST_STORIES; i++) {
                if (groups[i] == NONE && isNextTo(stories[waiting[at]], stories[i])) {
                    groups[i] = story;
                    waiting[size] = i;
                    size++;
                }
            }
        }
    }

    private static boolean isNextTo(Story story, Story other) {
        return story.event == other.event && story.likenessTo(other) >= ALIKE_FROM;
    }

    // ---- facts

    private int firstWith(int word) {
        needWord(word);
        needFact(word);
        int earliest = NONE;
        for (int i = 0; i < storyCount; i++) {
            Story story = stories[i];
            if (story.firstPlaceOf(word) < story.size
                    && (earliest == NONE || story.filed < stories[earliest].filed)) {
                earliest = i;
            }
        }
        if (earliest == NONE) {
            throw new NoSuchElementException("no story has that fact");
        }
        return earliest;
    }

    // A set of words is an int with a bit for each: there are at most 30.
    private int factsOf(int event) {
        int told = 0;
        for (int i = 0; i < storyCount; i++) {
            if (stories[i].event == event) {
                told |= factsIn(stories[i]);
            }
        }
        return told;
    }

    private int factsIn(Story story) {
        int told = 0;
        for (int i = 0; i < story.size; i++) {
            if (words[story.text[i]].isFact()) {
                told |= 1 << story.text[i];
            }
        }
        return told;
    }

    private int factsOn(int topic) {
        int facts = 0;
        for (int i = 0; i < wordCount; i++) {
            if (words[i].isFact() && words[i].topic == topic) {
                facts |= 1 << i;
            }
        }
        return facts;
    }

    // ---- soundness

    private boolean isSoundRun(int run) {
        Run checked = runs[run];
        Story story = stories[checked.story];
        if (checked.size < 1 || checked.size > story.size) {
            return false;
        }
        if (linesOfFirst(story, papers[checked.paper], checked.size) > checked.room) {
            return false;
        }
        for (int i = 0; i < run; i++) {
            if (runs[i].story == checked.story && runs[i].paper == checked.paper) {
                return false;
            }
        }
        return true;
    }

    private long payOfAllRuns() {
        long sum = 0;
        for (int i = 0; i < runCount; i++) {
            sum += runs[i].sum;
        }
        return sum;
    }

    private long paidAndUnsettled() {
        long sum = 0;
        for (int i = 0; i < handCount; i++) {
            sum += paidTo[i];
        }
        for (int i = 0; i < runCount; i++) {
            if (!runs[i].settled) {
                sum += runs[i].sum;
            }
        }
        return sum;
    }

    private int allGroups() {
        int sum = 0;
        for (int event = 0; event <= LAST_EVENT; event++) {
            sum += groupsOf(event);
        }
        return sum;
    }

    private static final class Word {
        int letters;
        char kind;
        int topic;

        boolean isFact() {
            return kind == 'f';
        }

        boolean takesTitle() {
            return kind == 'f' || kind == 'q';
        }

        int parts() {
            return kind == 'h' ? 2 : 1;
        }
    }

    private static final class Story {
        final int[] text = new int[MOST_LENGTH];
        // Each shingle once, as one number, in rising order: so two stories are compared in one go.
        final int[] shingleCodes = new int[MOST_LENGTH];
        int size;
        int shingleCount;
        int hand;
        int event;
        int filed;
        int source = NONE;
        boolean exclusive;

        void append(int word) {
            if (size >= MOST_LENGTH) {
                return;
            }
            text[size] = word;
            size++;
            if (size >= SHINGLE) {
                keepShingle(codeAt(size - SHINGLE));
            }
        }

        int replace(int index, int word) {
            int before = text[index];
            text[index] = word;
            shingleCount = 0;
            for (int i = 0; i + SHINGLE <= size; i++) {
                keepShingle(codeAt(i));
            }
            return before;
        }

        int firstPlaceOf(int word) {
            for (int i = 0; i < size; i++) {
                if (text[i] == word) {
                    return i;
                }
            }
            return size;
        }

        int likenessTo(Story other) {
            int both = sharedWith(other);
            int either = shingleCount + other.shingleCount - both;
            return either == 0 ? 0 : both * HUNDREDTHS / either;
        }

        private int codeAt(int index) {
            return (text[index] * MOST_WORDS + text[index + 1]) * MOST_WORDS + text[index + 2];
        }

        private void keepShingle(int code) {
            int place = shingleCount;
            while (place > 0 && shingleCodes[place - 1] >= code) {
                place--;
            }
            boolean isKept = place < shingleCount && shingleCodes[place] == code;
            if (isKept || shingleCount >= MOST_LENGTH) {
                return;
            }
            for (int i = shingleCount; i > place; i--) {
                shingleCodes[i] = shingleCodes[i - 1];
            }
            shingleCodes[place] = code;
            shingleCount++;
        }

        // Both rows rise, so what was passed in the other one is never looked at again.
        private int sharedWith(Story other) {
            int both = 0;
            int theirs = 0;
            for (int mine = 0; mine < shingleCount; mine++) {
                while (theirs < other.shingleCount && other.shingleCodes[theirs] < shingleCodes[mine]) {
                    theirs++;
                }
                if (theirs < other.shingleCount && other.shingleCodes[theirs] == shingleCodes[mine]) {
                    both++;
                }
            }
            return both;
        }
    }

    private static final class Paper {
        final boolean[] barred = new boolean[MOST_WORDS];
        final int[] claims = new int[MOST_HANDS];
        int rule;
        int measure;
        int rate;
        int leastPay;
        int nightExtra;
    }

    private static final class Run {
        int story;
        int paper;
        int room;
        int hour;
        int size;
        int sum;
        boolean settled;
    }

    /** How a story is set: for each number of its first words, these set by themselves. */
    private static final class Setting {
        // Sixty lines, each with all of the widest measure left, have less.
        private static final int MORE_THAN_ANY = 100000;

        final int[] linesOf = new int[MOST_LENGTH + 1];
        final int[] badnessOf = new int[MOST_LENGTH + 1];
        // The same of first words behind which more follow: then their last line's badness counts too.
        private final int[] fullLines = new int[MOST_LENGTH + 1];
        private final int[] fullBadness = new int[MOST_LENGTH + 1];

        void arrange(Story story, Word[] words, int measure) {
            for (int end = 1; end <= story.size; end++) {
                badnessOf[end] = MORE_THAN_ANY;
                fullBadness[end] = MORE_THAN_ANY;
                int signs = words[story.text[end - 1]].letters;
                for (int begin = end - 1; begin >= 0 && signs <= measure; begin--) {
                    tryLastLine(begin, end, measure - signs);
                    if (begin > 0) {
                        signs += 1 + words[story.text[begin - 1]].letters;
                    }
                }
            }
        }

        private void tryLastLine(int begin, int end, int left) {
            int lines = fullLines[begin] + 1;
            int badness = fullBadness[begin];
            if (isBetter(badness, lines, badnessOf[end], linesOf[end])) {
                badnessOf[end] = badness;
                linesOf[end] = lines;
            }
            int full = badness + left * left;
            if (isBetter(full, lines, fullBadness[end], fullLines[end])) {
                fullBadness[end] = full;
                fullLines[end] = lines;
            }
        }

        private static boolean isBetter(int badness, int lines, int thanBadness, int thanLines) {
            return badness < thanBadness || badness == thanBadness && lines < thanLines;
        }
    }
}
