/** Counts the calls whose answer is not the one that is due, and tells them. */
final class Check {
    interface Call {
        long answer();
    }

    private int wrong = 0;
    private int asked = 0;

    void is(String call, long want, long got) {
        asked++;
        if (got != want) {
            tell(call + " answered " + got + ", due is " + want);
        }
    }

    void isTrue(String call, boolean got) {
        is(call, 1, got ? 1 : 0);
    }

    void isFalse(String call, boolean got) {
        is(call, 0, got ? 1 : 0);
    }

    void isExactly(String call, double want, double got) {
        asked++;
        if (Double.compare(want, got) != 0) {
            tell(call + " answered " + got + ", due is " + want);
        }
    }

    /** The call throws just this class (none below it), and leaves the object as it was. */
    void fails(String call, Class<? extends RuntimeException> want, KnifeLedger x, Call made) {
        asked++;
        long before = x.digest();
        String got;
        try {
            got = "answered " + made.answer();
        } catch (RuntimeException e) {
            got = e.getClass() == want ? "" : "threw " + e;
        }
        if (!got.isEmpty()) {
            tell(call + " " + got + ", due is " + want.getSimpleName());
        }
        if (x.digest() != before) {
            tell(call + " threw and changed the object");
        }
    }

    void failsIndex(String call, KnifeLedger x, Call made) {
        fails(call, IndexOutOfBoundsException.class, x, made);
    }

    void failsArgument(String call, KnifeLedger x, Call made) {
        fails(call, IllegalArgumentException.class, x, made);
    }

    void failsState(String call, KnifeLedger x, Call made) {
        fails(call, IllegalStateException.class, x, made);
    }

    void tell(String text) {
        wrong++;
        System.out.println(text);
    }

    void end() {
        System.out.println(asked + " answers, " + wrong + " not as due");
        if (wrong != 0) {
            System.exit(1);
        }
    }
}
