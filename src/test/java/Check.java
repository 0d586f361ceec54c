import java.util.NoSuchElementException;

/** Counts and prints the answers that aren't the ones that are due. */
final class Check {
    static final String NO_SUCH = "NoSuchElementException";
    static final String BAD_ARGUMENT = "IllegalArgumentException";

    interface Call {
        long run();
    }

    private int wrong;

    void same(String what, long got, long want) {
        if (got != want) {
            tellWrong(what, Long.toString(got), Long.toString(want));
        }
    }

    void same(String what, String got, String want) {
        if (!got.equals(want)) {
            tellWrong(what, got, want);
        }
    }

    void isTrue(String what, boolean got) {
        same(what, got ? 1 : 0, 1);
    }

    void isFalse(String what, boolean got) {
        same(what, got ? 1 : 0, 0);
    }

    void noSuch(String what, Call call) {
        same(what, answerOf(call), NO_SUCH);
    }

    void badArgument(String what, Call call) {
        same(what, answerOf(call), BAD_ARGUMENT);
    }

    /** The answer as a text, or the name of the exception. */
    static String answerOf(Call call) {
        try {
            return Long.toString(call.run());
        } catch (NoSuchElementException e) {
            return NO_SUCH;
        } catch (RuntimeException e) {
            return e.getClass().getSimpleName();
        }
    }

    void end() {
        if (wrong > 0) {
            System.out.println(wrong + " wrong");
            System.exit(1);
        }
    }

    int wrongTotal() {
        return wrong;
    }

    private void tellWrong(String what, String got, String want) {
        wrong++;
        System.out.println(what + " answered " + got + ", due is " + want);
    }
}
