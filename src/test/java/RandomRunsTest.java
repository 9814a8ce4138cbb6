import java.lang.reflect.InvocationTargetException;
import java.lang.reflect.Method;
import java.lang.reflect.Modifier;
import java.util.Arrays;
import java.util.Comparator;
import java.util.HashMap;
import java.util.Map;

/** Long runs of calls, the same for the class and for the plain office; each answer must be the same. */
final class RandomRunsTest {
    private static final int RUNS = 240;
    private static final int CALLS = 512;
    /**
     * Behind a call's name how often it is drawn, and of what kind each argument is: a word, a hand, a story, a paper,
     * a run, a place in the story, some lines, a sum, or from where to where it goes.
     */
    private static final String[][] CALL_RANGES = {
        {"addWord", "6", "1 12", "kind", "0 9"}, {"addHand", "1"}, {"file", "4", "hand", "0 9"},
        {"fork", "6", "hand", "story"}, {"write", "60", "story", "word"}, {"correct", "12", "story", "place", "word"},
        {"length", "2", "story"}, {"wordAt", "3", "story", "place"}, {"depth", "3", "story"}, {"setStrike", "1", "0 1"},
        {"pass", "8", "1 99"}, {"hour", "1"}, {"addPaper", "1", "0 2", "12 40", "1 99", "0 999", "0 100"},
        {"count", "6", "story", "paper"}, {"lines", "6", "story", "paper"}, {"badness", "6", "story", "paper"},
        {"fits", "6", "story", "paper", "lines"}, {"ban", "3", "paper", "word", "0 1"},
        {"breaches", "3", "story", "paper"}, {"setExclusive", "4", "story", "0 1"},
        {"run", "12", "story", "paper", "lines"}, {"ran", "4", "run"}, {"pay", "6", "run"},
        {"owed", "4", "paper", "hand"},
        {"claim", "4", "hand", "paper", "sum"}, {"settle", "3", "hand", "paper"}, {"paid", "3", "hand"},
        {"padding", "4", "story"}, {"isPadding", "6", "story", "place"}, {"shingles", "4", "story"},
        {"likeness", "8", "story", "story"}, {"sources", "4", "0 9"}, {"areOne", "4", "story", "story"},
        {"known", "4", "word"}, {"first", "4", "word"}, {"contradictions", "4", "0 9"}, {"checksum", "2"},
        {"ranShare", "2"}, {"meanPay", "2"}, {"isSound", "2"},
    };
    private static final Method[] OFFICE_CALLS = byName(LinageOffice.class);
    private static final Method[] PLAIN_CALLS = byName(PlainOffice.class);

    private final Check check;
    private final int run;
    private final boolean isFew;
    private final boolean isLate;
    private final LinageOffice office = new LinageOffice();
    private final PlainOffice plain = new PlainOffice();
    private final Map<String, Integer> made = new HashMap<>();
    private int called;
    private long seed;

    private RandomRunsTest(Check check, int run) {
        this.check = check;
        this.run = run;
        // Few words and events make stories alike; runs that come late let stories grow long.
        this.isFew = run % 2 == 1;
        this.isLate = run % 4 > 1;
        this.seed = run;
    }

    static void runAll(Check check) {
        check.due("each call has its ranges", CALL_RANGES.length, OFFICE_CALLS.length);
        for (int run = 0; run < RUNS; run++) {
            new RandomRunsTest(check, run).compare();
        }
    }

    private static Method[] byName(Class<?> type) {
        return Arrays.stream(type.getDeclaredMethods())
            .filter(method -> Modifier.isPublic(method.getModifiers()))
            .sorted(Comparator.comparing(Method::getName))
            .toArray(Method[]::new);
    }

    private void compare() {
        int alike = 0;
        for (called = 0; called < CALLS; called++) {
            alike += isAlike(drawCall()) ? 1 : 0;
        }
        check.due("run " + run + ": answers that are alike", alike, CALLS);
    }

    private boolean isAlike(String[] drawn) {
        int place = 0;
        while (!OFFICE_CALLS[place].getName().equals(drawn[0])) {
            place++;
        }
        Object[] arguments = new Object[drawn.length - 2];
        for (int i = 0; i < arguments.length; i++) {
            arguments[i] = argument(OFFICE_CALLS[place].getParameterTypes()[i], drawn[i + 2], arguments[0]);
        }
        String got = answer(OFFICE_CALLS[place], office, arguments);
        String due = answer(PLAIN_CALLS[place], plain, arguments);
        if (!due.startsWith("throws")) {
            made.merge(drawn[0], 1, Integer::sum);
        }
        if (!got.equals(due)) {
            check.dueText("run " + run + ": " + drawn[0] + Arrays.toString(arguments), got, due);
        }
        return got.equals(due);
    }

    private static String answer(Method call, Object on, Object[] arguments) {
        try {
            return String.valueOf(call.invoke(on, arguments));
        } catch (InvocationTargetException e) {
            return "throws." + e.getCause().getClass().getSimpleName();
        } catch (IllegalAccessException e) {
            throw new IllegalStateException(e);
        }
    }

    private Object argument(Class<?> type, String kind, Object story) {
        if (type == boolean.class) {
            return draw(0, 1) == 1;
        }
        if (type == char.class) {
            return draw(0, 20) == 0 ? 'x' : "ffffetqh".charAt(draw(0, 7));
        }
        int[] range = range(kind, story);
        // Wrong numbers are drawn seldom: a run of refusals shows little.
        if (draw(0, 40) == 0) {
            int[] wrong = {range[0] - 1, range[1] + 1, Integer.MIN_VALUE, Integer.MAX_VALUE};
            return wrong[draw(0, 3)];
        }
        return draw(range[0], Math.max(range[0], range[1]));
    }

    private int[] range(String kind, Object story) {
        switch (kind) {
            case "word":
                return new int[] {0, Math.min(many("addWord"), isFew ? 4 : 30) - 1};
            case "hand":
                return new int[] {0, many("addHand") - 1};
            case "story":
                return new int[] {0, many("file") + many("fork") - 1};
            case "paper":
                return new int[] {0, many("addPaper") - 1};
            case "run":
                return new int[] {0, many("run") - 1};
            case "place":
                int number = (Integer) story;
                boolean isThere = number >= 0 && number < many("file") + many("fork");
                return new int[] {0, isThere ? plain.length(number) - 1 : 0};
            case "lines":
                return new int[] {0, draw(0, 3) == 0 ? 99 : 9};
            case "sum":
                return new int[] {0, draw(0, 3) == 0 ? 99999 : 2000};
            default:
                String[] ends = kind.split(" ");
                int most = isFew && kind.equals("0 9") ? 1 : Integer.parseInt(ends[1]);
                return new int[] {Integer.parseInt(ends[0]), most};
        }
    }

    private int many(String call) {
        return made.getOrDefault(call, 0);
    }

    private String[] drawCall() {
        // Without hands, words, papers and stories little can be asked: so each run begins with some.
        String[] begin = {"addHand", "addHand", "addWord", "addWord", "addWord", "addWord", "addWord", "addWord",
            "addPaper", "addPaper", "addPaper", "addPaper", "file", "file"};
        if (called < begin.length) {
            return row(begin[called]);
        }
        int sum = 0;
        for (String[] row : CALL_RANGES) {
            sum += weight(row);
        }
        int left = draw(0, sum - 1);
        int place = 0;
        while (left >= weight(CALL_RANGES[place])) {
            left -= weight(CALL_RANGES[place]);
            place++;
        }
        return CALL_RANGES[place];
    }

    private int weight(String[] row) {
        int weight = Integer.parseInt(row[1]);
        boolean isRun = row[0].equals("run");
        if (isLate && called < CALLS / 2) {
            return isRun ? 0 : row[0].equals("write") ? 3 * weight : weight;
        }
        return isLate && isRun ? 4 * weight : weight;
    }

    private static String[] row(String name) {
        return Arrays.stream(CALL_RANGES).filter(row -> row[0].equals(name)).findFirst().orElseThrow();
    }

    private int draw(int least, int most) {
        seed = seed * 6364136223846793005L + 1442695040888963407L;
        return least + (int) Math.floorMod(seed >>> 33, (long) (most - least + 1));
    }
}
