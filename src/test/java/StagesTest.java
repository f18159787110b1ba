/** Promises 1 (a new object) and 2 (set). */
public final class StagesTest {
    private static final Check check = new Check();

    public static void main(String[] args) {
        check.runs(
                StagesTest::objectsAreApart, StagesTest::set);
    }

    private static void objectsAreApart() {
        KnifeLedger one = new KnifeLedger();
        KnifeLedger other = new KnifeLedger();
        long before = other.digest();
        one.set(0, 3, 4);
        one.join(50);
        one.toss(0, 2);
        check.is("digest() of another object", before, other.digest());
    }

    private static void set() {
        KnifeLedger x = new KnifeLedger();
        check.is("set(0, 4, 1)", 0, x.set(0, 4, 1));
        check.is("set(0, 9, 9)", 41, x.set(0, 9, 9));
        check.is("set(0, 0, 0)", 99, x.set(0, 0, 0));
        check.is("set(3, 0, 7)", 0, x.set(3, 0, 7));
        check.is("set(3, 8, 0)", 7, x.set(3, 8, 0));
        check.is("set(3, 8, 0) again", 80, x.set(3, 8, 0));
        check.is("set(2, 1, 1) beside the others", 0, x.set(2, 1, 1));
    }
}
