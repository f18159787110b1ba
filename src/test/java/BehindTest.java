/** Promises 13 to 15: behind, trust and count. */
public final class BehindTest {
    private static final Check check = new Check();

    public static void main(String[] args) {
        check.runs(
                BehindTest::behind, BehindTest::trust, BehindTest::count);
    }

    /** One of each kind, one that counts for nothing (6), and one that is struck out (7). */
    private static KnifeLedger show() {
        KnifeLedger x = new KnifeLedger();
        x.set(1, 5, 2);
        x.join(40);
        x.buy(2);
        x.go(1);
        x.toss(0, 4);
        x.join(60);
        x.toss(1, 0);
        x.pay(1, 50);
        x.rest(0);
        x.pay(1, 9);
        x.strike(7);
        return x;
    }

    private static void behind() {
        KnifeLedger x = show();
        int[][] due = {
            // coins, plasters, stage, joined, trust of all, count, count for nothing
            {10, 0, 0, 0, 0, 0, 0},
            {10, 0, 0, 1, 40, 1, 0},
            {6, 2, 0, 1, 40, 2, 0},
            {6, 2, 1, 1, 40, 3, 0},
            {13, 2, 1, 1, 41, 4, 0},
            {13, 2, 1, 2, 101, 5, 0},
            {13, 1, 1, 2, 71, 6, 0},
            {13, 1, 1, 2, 71, 6, 1},
            {13, 1, 1, 2, 71, 6, 1},
            {4, 1, 1, 2, 74, 7, 1},
        };
        for (int entries = 0; entries <= 9; entries++) {
            for (int what = 0; what < 7; what++) {
                check.is("behind(" + entries + ", " + what + ")", due[entries][what],
                        x.behind(entries, what));
            }
        }
    }

    private static void trust() {
        KnifeLedger x = show();
        int[] first = {-1, 40, 40, 40, 41, 41, 41, 41, 41, 41};
        int[] second = {-1, -1, -1, -1, -1, 60, 30, 30, 30, 33};
        for (int entries = 0; entries <= 9; entries++) {
            check.is("trust(0, " + entries + ")", first[entries], x.trust(0, entries));
            check.is("trust(1, " + entries + ")", second[entries], x.trust(1, entries));
            check.is("trust(2, " + entries + ")", -1, x.trust(2, entries));
            check.is("trust(5, " + entries + ")", -1, x.trust(5, entries));
        }
        x.strike(0);
        check.is("the second is the first without the first", 60, x.trust(0, 5));
        check.is("and nobody is the second", -1, x.trust(1, 9));
    }

    private static void isCounts(String state, KnifeLedger x, int... due) {
        for (int what = 0; what < 6; what++) {
            check.is(state + ": count(" + what + ")", due[what], x.count(what));
        }
    }

    private static void count() {
        KnifeLedger x = show();
        isCounts("the show", x, 9, 1, 7, 4, 6, 4);
        x.strike(6);
        isCounts("none for nothing", x, 9, 2, 7, 4, -1, 4);
        x.strike(0);
        isCounts("without the first join", x, 9, 3, 3, 6, 3, 6);
        x.shift(8, 0);
        isCounts("the pay first", x, 9, 3, 3, 6, 0, 6);
    }
}
