import java.lang.reflect.InvocationTargetException;
import java.lang.reflect.Method;
import java.util.Arrays;
import java.util.Comparator;

/** Long runs of calls, the same for the class and for the plain office; each answer must be the same. */
final class RandomRunsTest {
    private static final int RUNS = 400;
    private static final int CALLS = 512;
    private static final int SETUP = 60;
    /** Behind a call's name how often it is drawn, and from where to where each argument goes. */
    private static final String[][] CALL_RANGES = {
        {"addWord", "6", "0 13", "0 5", "-1 10"}, {"addHand", "1"}, {"file", "4", "-1 4", "-1 10"},
        {"fork", "6", "-1 4", "-1 20"}, {"write", "60", "-1 20", "-1 30"}, {"correct", "12", "-1 20", "-1 60", "-1 30"},
        {"length", "2", "-1 20"}, {"wordAt", "3", "-1 20", "-1 60"}, {"depth", "3", "-1 20"}, {"setStrike", "1", "0 1"},
        {"pass", "8", "0 100"}, {"hour", "1"}, {"addPaper", "3", "-1 3", "11 41", "0 100", "-1 1000", "-1 101"},
        {"count", "6", "-1 20", "-1 5"}, {"lines", "6", "-1 20", "-1 5"}, {"badness", "6", "-1 20", "-1 5"},
        {"fits", "6", "-1 20", "-1 5", "-1 100"}, {"ban", "3", "-1 5", "-1 30", "0 1"}, {"breaches", "3", "-1 20", "-1 5"},
        {"setExclusive", "4", "-1 20", "0 1"}, {"run", "12", "-1 20", "-1 5", "0 100"}, {"ran", "4", "-1 30"},
        {"pay", "6", "-1 30"}, {"owed", "4", "-1 5", "-1 4"}, {"claim", "4", "-1 4", "-1 5", "-1 100000"},
        {"settle", "3", "-1 4", "-1 5"}, {"paid", "3", "-1 4"}, {"padding", "4", "-1 20"},
        {"isPadding", "6", "-1 20", "-1 60"}, {"shingles", "4", "-1 20"}, {"likeness", "8", "-1 20", "-1 20"},
        {"sources", "4", "-1 10"}, {"areOne", "4", "-1 20", "-1 20"}, {"known", "4", "-1 30"}, {"first", "4", "-1 30"},
        {"contradictions", "4", "-1 10"}, {"checksum", "2"}, {"ranShare", "2"}, {"meanPay", "2"}, {"isSound", "2"},
    };

    private final Check check;
    private final int run;
    private final Method[] calls = byName(LinageOffice.class);
    private final Method[] plainCalls = byName(PlainOffice.class);
    private final LinageOffice office = new LinageOffice();
    private final PlainOffice plain = new PlainOffice();
    private long seed;

    private RandomRunsTest(Check check, int run) {
        this.check = check;
        this.run = run;
        this.seed = run;
    }

    static void runAll(Check check) {
        check.due("each call has its ranges", CALL_RANGES.length, byName(LinageOffice.class).length);
        for (int run = 0; run < RUNS; run++) {
            new RandomRunsTest(check, run).compare();
        }
    }

    private static Method[] byName(Class<?> type) {
        return Arrays.stream(type.getDeclaredMethods())
            .filter(method -> java.lang.reflect.Modifier.isPublic(method.getModifiers()))
            .sorted(Comparator.comparing(Method::getName))
            .toArray(Method[]::new);
    }

    private void compare() {
        int alike = 0;
        for (int call = 0; call < CALLS; call++) {
            String[] drawn = call < SETUP ? drawSetup(call) : draw();
            alike += isAlike(drawn) ? 1 : 0;
        }
        check.due("run " + run + ": answers that are alike", alike, CALLS);
    }

    private boolean isAlike(String[] drawn) {
        int place = 0;
        while (!calls[place].getName().equals(drawn[0])) {
            place++;
        }
        Object[] arguments = new Object[drawn.length - 2];
        for (int i = 0; i < arguments.length; i++) {
            String[] range = drawn[i + 2].split(" ");
            arguments[i] = argument(calls[place], i, Integer.parseInt(range[0]), Integer.parseInt(range[1]));
        }
        String got = answer(calls[place], office, arguments);
        String due = answer(plainCalls[place], plain, arguments);
        if (!got.equals(due)) {
            check.dueText("run " + run + ": " + drawn[0] + Arrays.toString(arguments), got, due);
        }
        return got.equals(due);
    }

    private static String answer(Method call, Object on, Object[] arguments) {
        try {
            return String.valueOf(call.invoke(on, arguments));
        } catch (InvocationTargetException e) {
            return "throws." + e.getCause().getClass().getSimpleName();
        } catch (IllegalAccessException e) {
            throw new IllegalStateException(e);
        }
    }

    private Object argument(Method call, int place, int least, int most) {
        Class<?> type = call.getParameterTypes()[place];
        int number = draw(least, most);
        // The edges of a range are drawn seldom: a state that is all refusals shows little.
        if ((number == least || number == most) && most - least > 2 && draw(0, 9) > 0) {
            number = draw(least + 1, most - 1);
        }
        if (type == boolean.class) {
            return draw(0, 1) == 1;
        }
        if (type == char.class) {
            return "fetqhx".charAt(number);
        }
        String name = call.getName();
        boolean isFew = (run & 1) == 1 && number > 3 && !name.equals("addPaper") && !name.equals("addWord");
        boolean isLines = place == 2 && (name.equals("run") || name.equals("fits")) && draw(0, 4) > 0;
        return isFew && draw(0, 3) > 0 || isLines ? number % 4 : number;
    }

    /** Without words, hands and papers nothing can be asked: so each run begins with some. */
    private String[] drawSetup(int call) {
        if (call < 3) {
            return range("addHand");
        }
        if (call < 20) {
            return range("addWord");
        }
        if (call < 24) {
            return range("addPaper");
        }
        return range(call < 28 ? "file" : "write");
    }

    private String[] draw() {
        int sum = 0;
        for (String[] row : CALL_RANGES) {
            sum += Integer.parseInt(row[1]);
        }
        int left = draw(0, sum - 1);
        int place = 0;
        while (left >= Integer.parseInt(CALL_RANGES[place][1])) {
            left -= Integer.parseInt(CALL_RANGES[place][1]);
            place++;
        }
        return CALL_RANGES[place];
    }

    private static String[] range(String name) {
        return Arrays.stream(CALL_RANGES).filter(row -> row[0].equals(name)).findFirst().orElseThrow();
    }

    private int draw(int least, int most) {
        seed = seed * 6364136223846793005L + 1442695040888963407L;
        return least + (int) Math.floorMod(seed >>> 33, (long) (most - least + 1));
    }
}
