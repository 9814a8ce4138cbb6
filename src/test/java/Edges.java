import java.util.function.Consumer;
import java.util.function.Function;

/** Asks calls of a scene at the edges of what they take, and that a refused one changes nothing. */
final class Edges {
    static final Class<IndexOutOfBoundsException> INDEX = IndexOutOfBoundsException.class;
    static final Class<IllegalArgumentException> ARGUMENT = IllegalArgumentException.class;
    static final Class<UnsupportedOperationException> UNSUPPORTED = UnsupportedOperationException.class;
    static final Class<IllegalStateException> STATE = IllegalStateException.class;
    static final Class<java.util.NoSuchElementException> ELEMENT = java.util.NoSuchElementException.class;
    static final Class<ArithmeticException> ARITHMETIC = ArithmeticException.class;

    private final Check check;
    private final Scene scene;

    Edges(Check check, Scene scene) {
        this.check = check;
        this.scene = scene;
    }

    /** A call with the number that is tested. */
    interface Numbered {
        Object call(LinageOffice office, int number);
    }

    /** Calls in a new office of the scene. */
    void answers(String told, Object due, Function<LinageOffice, Object> call) {
        check.dueText(told, Answer.of(() -> call.apply(scene.made())), String.valueOf(due));
    }

    void refused(String told, Class<? extends RuntimeException> want, Consumer<LinageOffice> call) {
        LinageOffice office = scene.made();
        check.thrown(told, want, () -> call.accept(office));
        Scene behind = scene.and(refusing -> Answer.of(() -> {
            call.accept(refusing);
            return null;
        }));
        check.dueText(told + ", refused, changes", State.difference(behind.state(), scene.state()), "");
    }

    /** Refused, or, if that is due, not. */
    void answersOrRefused(String told, Class<? extends RuntimeException> want, Consumer<LinageOffice> call) {
        if (want != null) {
            refused(told, want, call);
            return;
        }
        answers(told, "taken", office -> {
            call.accept(office);
            return "taken";
        });
    }

    /** The least number and the most have answers; one below, one above and the widest are refused. */
    void number(String told, Class<? extends RuntimeException> want, int least, Object dueAtLeast, int most,
            Object dueAtMost, Numbered call) {
        answers(told + ", at least " + least, dueAtLeast, office -> call.call(office, least));
        answers(told + ", at most " + most, dueAtMost, office -> call.call(office, most));
        noNumber(told, want, least, most, call);
    }

    void noNumber(String told, Class<? extends RuntimeException> want, int least, int most, Numbered call) {
        int[] wrong = {least - 1, most + 1, Integer.MIN_VALUE, Integer.MAX_VALUE};
        for (int number : wrong) {
            refused(told + ", for " + number, want, office -> call.call(office, number));
        }
    }
}
