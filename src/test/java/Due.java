/** Counts the calls whose answers are not as due, and tells them. */
final class Due {
    static final int NO_SUCH = 1;
    static final int WRONG_STATE = 2;

    /** A call that may throw. */
    interface Call {
        long ask();
    }

    private final String title;
    private int wrong;

    Due(String title) {
        this.title = title;
    }

    void is(String call, long got, long want) {
        if (got != want) {
            wrong++;
            System.out.println(title + ": " + call + " answered " + got + ", due is " + want);
        }
    }

    void isIndexOutOfBounds(String call, Call asked) {
        is(call + " throws (1 IndexOutOfBoundsException, 2 IllegalStateException)", thrownBy(asked), NO_SUCH);
    }

    void isIllegalState(String call, Call asked) {
        is(call + " throws (1 IndexOutOfBoundsException, 2 IllegalStateException)", thrownBy(asked), WRONG_STATE);
    }

    static int thrownBy(Call asked) {
        try {
            asked.ask();
            return 0;
        } catch (RuntimeException e) {
            if (e.getClass() == IndexOutOfBoundsException.class) {
                return NO_SUCH;
            }
            return e.getClass() == IllegalStateException.class ? WRONG_STATE : -1;
        }
    }

    void end() {
        System.out.println(title + ": " + (wrong == 0 ? "all answers are as due" : wrong + " answers are not as due"));
        if (wrong != 0) {
            System.exit(1);
        }
    }
}
