import java.util.function.Supplier;

/** What a call tells: its answer, or what it throws; used by the program that ReadmeTest makes of README.md. */
final class Told {
    private Told() {
    }

    static String by(Supplier<Object> call) {
        try {
            return "" + call.get();
        } catch (RuntimeException e) {
            return "throws " + e.getClass().getSimpleName();
        }
    }
}
