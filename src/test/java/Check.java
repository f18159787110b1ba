/** Counts the calls whose answer is not the one that is due, and tells them. */
final class Check {
    interface Call {
        long answer();
    }

    private int wrong = 0;
    private int asked = 0;
    private int sentences = 0;
    private int askedBefore = 0;
    private String words = "";

    /** What is asked from here on tests this sentence of the document, word by word. */
    void sentence(String where, String sentence) {
        endSentence();
        sentences++;
        words = where + " \"" + sentence + "\": ";
    }

    private void endSentence() {
        if (!words.isEmpty() && asked == askedBefore) {
            tell("nothing is asked");
        }
        askedBefore = asked;
        words = "";
    }

    void is(String call, long want, long got) {
        asked++;
        if (got != want) {
            tell(call + " answered " + got + ", due is " + want);
        }
    }

    void isTrue(String call, boolean got) {
        is(call, 1, got ? 1 : 0);
    }

    void isFalse(String call, boolean got) {
        is(call, 0, got ? 1 : 0);
    }

    void isExactly(String call, double want, double got) {
        asked++;
        if (Double.compare(want, got) != 0) {
            tell(call + " answered " + got + ", due is " + want);
        }
    }

    /** The call throws just this class (none below it), and leaves the object as it was. */
    void fails(String call, Class<? extends RuntimeException> want, KnifeLedger x, Call made) {
        asked++;
        long before = x.digest();
        String got;
        try {
            got = "answered " + made.answer();
        } catch (RuntimeException e) {
            got = e.getClass() == want ? "" : "threw " + e;
        }
        if (!got.isEmpty()) {
            tell(call + " " + got + ", due is " + want.getSimpleName());
        }
        if (x.digest() != before) {
            tell(call + " threw and changed the object");
        }
    }

    void failsIndex(String call, KnifeLedger x, Call made) {
        fails(call, IndexOutOfBoundsException.class, x, made);
    }

    void failsArgument(String call, KnifeLedger x, Call made) {
        fails(call, IllegalArgumentException.class, x, made);
    }

    void failsState(String call, KnifeLedger x, Call made) {
        fails(call, IllegalStateException.class, x, made);
    }

    void tell(String text) {
        wrong++;
        System.out.println(words + text);
    }

    /** Each test by itself: one that breaks off is told, and those behind it run all the same. */
    void runs(Runnable... tests) {
        for (Runnable test : tests) {
            try {
                test.run();
            } catch (RuntimeException e) {
                StackTraceElement[] calls = e.getStackTrace();
                tell("breaks off by " + e + (calls.length == 0 ? "" : " in " + calls[0]));
            }
        }
        end();
    }

    void end() {
        endSentence();
        String of = sentences == 0 ? "" : " to " + sentences + " sentences";
        System.out.println(asked + " answers" + of + ", " + wrong + " not as due");
        if (wrong != 0) {
            System.exit(1);
        }
    }
}
