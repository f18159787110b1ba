/** Promises 9 to 12: strike, shift, tear and entry. */
public final class LedgerTest {
    private static final Check check = new Check();

    public static void main(String[] args) {
        check.runs(
                LedgerTest::strike, LedgerTest::shift, LedgerTest::shiftTakesTheStrikeAlong,
                LedgerTest::tear, LedgerTest::entry);
    }

    private static void strike() {
        KnifeLedger x = new KnifeLedger();
        x.join(50);
        x.toss(0, 3);
        x.pay(0, 20);
        check.is("coins at first", 2, x.count(3));
        check.isTrue("strike(1)", x.strike(1));
        check.is("it is struck out", 1, x.entry(1, 3));
        check.is("it does not count", 0, x.entry(1, 4));
        check.is("what stands behind it counts for nothing", 0, x.entry(2, 4));
        check.is("coins then", 10, x.count(3));
        check.isTrue("strike(0)", x.strike(0));
        check.is("nobody has joined", -1, x.trust(0, 3));
        check.isFalse("strike(1) again", x.strike(1));
        check.is("it counts for nothing", 0, x.entry(1, 4));
        check.isFalse("strike(0) again", x.strike(0));
        check.is("it is not struck out", 0, x.entry(0, 3));
        check.is("coins at last", 2, x.count(3));
        check.isTrue("strike(2), the last", x.strike(2));
        check.is("entries stay", 3, x.count(0));
    }

    private static KnifeLedger fiveKinds() {
        KnifeLedger x = new KnifeLedger();
        x.join(50);
        x.toss(0, 7);
        x.rest(1);
        x.go(2);
        x.pay(3, 9);
        return x;
    }

    private static void isKinds(String call, KnifeLedger x, int... kinds) {
        check.is(call + ": entries", kinds.length, x.count(0));
        for (int entry = 0; entry < kinds.length; entry++) {
            check.is(call + ": kind of " + entry, kinds[entry], x.entry(entry, 0));
        }
    }

    private static void shift() {
        KnifeLedger x = fiveKinds();
        check.is("shift(1, 3)", 1, x.shift(1, 3));
        isKinds("shift(1, 3)", x, 0, 2, 3, 1, 4);
        check.is("its thumbs go along", 7, x.entry(3, 2));
        check.is("the partner of the one before", 1, x.entry(1, 1));
        check.is("shift(3, 1)", 1, x.shift(3, 1));
        isKinds("shift(3, 1)", x, 0, 1, 2, 3, 4);
        check.is("shift(4, 0)", 4, x.shift(4, 0));
        isKinds("shift(4, 0)", x, 4, 0, 1, 2, 3);
        check.is("its partner goes along", 3, x.entry(0, 1));
        check.is("its coins go along", 9, x.entry(0, 2));
        check.is("shift(0, 4)", 4, x.shift(0, 4));
        isKinds("shift(0, 4)", x, 0, 1, 2, 3, 4);
        check.is("shift(2, 2)", 2, x.shift(2, 2));
        isKinds("shift(2, 2)", x, 0, 1, 2, 3, 4);
        check.is("shift(0, 1)", 0, x.shift(0, 1));
        check.is("the toss stands before the join", 0, x.entry(0, 4));
        check.is("trust without the toss", 50, x.trust(0, 2));
    }

    private static void shiftTakesTheStrikeAlong() {
        KnifeLedger x = fiveKinds();
        x.strike(1);
        x.shift(1, 3);
        int[] up = {0, 0, 0, 1, 0};
        for (int entry = 0; entry < 5; entry++) {
            check.is("struck out upwards " + entry, up[entry], x.entry(entry, 3));
        }
        x.shift(4, 2);
        int[] down = {0, 0, 0, 0, 1};
        for (int entry = 0; entry < 5; entry++) {
            check.is("struck out downwards " + entry, down[entry], x.entry(entry, 3));
        }
    }

    private static void tear() {
        KnifeLedger x = fiveKinds();
        x.strike(3);
        check.is("tear() of a pay", 4, x.tear());
        check.is("tear() of one struck out", 3, x.tear());
        isKinds("tear()", x, 0, 1, 2);
        check.is("go(1) behind it", 3, x.go(1));
        check.is("it is not struck out", 0, x.entry(3, 3));
        check.is("it counts", 1, x.entry(3, 4));
        check.is("its stage", 1, x.entry(3, 1));
        check.is("tear() of a go", 3, x.tear());
        check.is("tear() of a rest", 2, x.tear());
        check.is("coins with the toss", 15, x.count(3));
        check.is("tear() of a toss", 1, x.tear());
        check.is("coins without the toss", 10, x.count(3));
        check.is("tear() of a join", 0, x.tear());
        check.failsState("tear() of none", x, () -> x.tear());
        check.is("entries", 0, x.count(0));
        x.buy(4);
        check.is("second number of a buy behind what was torn", 0, x.entry(0, 2));
        check.is("tear() of a buy", 5, x.tear());
    }

    private static void entry() {
        KnifeLedger x = fiveKinds();
        x.buy(20);
        x.strike(0);
        int[][] due = {
            {0, 50, 0, 1, 0}, {1, 0, 7, 0, 0}, {2, 1, 0, 0, 0},
            {3, 2, 0, 0, 1}, {4, 3, 9, 0, 0}, {5, 20, 0, 0, 0},
        };
        for (int entry = 0; entry < 6; entry++) {
            for (int what = 0; what < 5; what++) {
                check.is("entry(" + entry + ", " + what + ")", due[entry][what], x.entry(entry, what));
            }
        }
        x.strike(0);
        check.is("the join counts", 1, x.entry(0, 4));
        check.is("the toss counts", 1, x.entry(1, 4));
        check.is("the rest of another does not", 0, x.entry(2, 4));
    }
}
