import java.util.function.Supplier;

/** What a call answers, as a text. */
final class Answer {
    private Answer() {
    }

    static String of(Supplier<Object> call) {
        try {
            return String.valueOf(call.get());
        } catch (RuntimeException e) {
            return "throws." + e.getClass().getSimpleName();
        }
    }
}
