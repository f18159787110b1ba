/** Promises 1 (a new object) and 2 (set). */
public final class StagesTest {
    private static final Check check = new Check();

    public static void main(String[] args) {
        newObject();
        objectsAreApart();
        set();
        setRefuses();
        check.end();
    }

    private static void newObject() {
        KnifeLedger x = new KnifeLedger();
        int[] counts = {0, 0, 0, 10, -1, 10};
        for (int what = 0; what < 6; what++) {
            check.is("new count(" + what + ")", counts[what], x.count(what));
        }
        int[] behind = {10, 0, 0, 0, 0, 0, 0};
        for (int what = 0; what < 7; what++) {
            check.is("new behind(0, " + what + ")", behind[what], x.behind(0, what));
        }
        for (int partner = 0; partner < 6; partner++) {
            check.is("new trust(" + partner + ", 0)", -1, x.trust(partner, 0));
            check.is("new would(" + partner + ", 5)", -1, x.would(partner, 5));
        }
        check.is("new best()", -1, x.best());
        check.isExactly("new mean()", 0.0, x.mean());
        check.failsState("new tear()", x, () -> x.tear());
        for (int stage = 0; stage < 4; stage++) {
            check.is("first set(" + stage + ", 0, 0)", 0, x.set(stage, 0, 0));
        }
    }

    private static void objectsAreApart() {
        KnifeLedger one = new KnifeLedger();
        KnifeLedger other = new KnifeLedger();
        long before = other.digest();
        one.set(0, 3, 4);
        one.join(50);
        one.toss(0, 2);
        check.is("digest() of another object", before, other.digest());
    }

    private static void set() {
        KnifeLedger x = new KnifeLedger();
        check.is("set(0, 4, 1)", 0, x.set(0, 4, 1));
        check.is("set(0, 9, 9)", 41, x.set(0, 9, 9));
        check.is("set(0, 0, 0)", 99, x.set(0, 0, 0));
        check.is("set(3, 0, 7)", 0, x.set(3, 0, 7));
        check.is("set(3, 8, 0)", 7, x.set(3, 8, 0));
        check.is("set(3, 8, 0) again", 80, x.set(3, 8, 0));
        check.is("set(2, 1, 1) beside the others", 0, x.set(2, 1, 1));
    }

    private static void setRefuses() {
        KnifeLedger x = new KnifeLedger();
        x.set(0, 1, 2);
        x.set(3, 5, 6);
        int[] noStages = {-1, 4, Integer.MIN_VALUE, Integer.MAX_VALUE};
        for (int stage : noStages) {
            check.failsIndex("set(" + stage + ", 1, 1)", x, () -> x.set(stage, 1, 1));
            check.failsIndex("set(" + stage + ", 10, -1)", x, () -> x.set(stage, 10, -1));
        }
        int[] noNumbers = {-1, 10, Integer.MIN_VALUE, Integer.MAX_VALUE};
        for (int number : noNumbers) {
            check.failsArgument("set(0, " + number + ", 1)", x, () -> x.set(0, number, 1));
            check.failsArgument("set(3, 1, " + number + ")", x, () -> x.set(3, 1, number));
        }
        check.is("set(0, 0, 0) after what was refused", 12, x.set(0, 0, 0));
        check.is("set(3, 0, 0) after what was refused", 56, x.set(3, 0, 0));
    }
}
