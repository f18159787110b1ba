/** Promises 16 to 20: worth, best, would, mean and digest. */
public final class WouldBeTest {
    private static final Check check = new Check();

    public static void main(String[] args) {
        check.runs(
                WouldBeTest::worth, WouldBeTest::best, WouldBeTest::bestOfSeveral,
                WouldBeTest::would, WouldBeTest::mean, WouldBeTest::digest,
                WouldBeTest::digestTellsStatesApart);
    }

    private static void worth() {
        KnifeLedger x = new KnifeLedger();
        x.join(50);
        x.toss(0, 2);
        x.pay(0, 20);
        x.toss(1, 2);
        check.is("coins", 2, x.count(3));
        check.is("worth(0) of the join", -8, x.worth(0));
        check.is("worth(1) of the toss, without which none is paid", -8, x.worth(1));
        check.is("worth(2) of the pay", -20, x.worth(2));
        check.is("worth(3) of what counts for nothing", 0, x.worth(3));
        x.strike(2);
        check.is("worth(2) of the pay, struck out", 20, x.worth(2));
        check.is("worth(1) of the toss then", 12, x.worth(1));
        x.strike(1);
        check.is("worth(1) of the toss, struck out", -12, x.worth(1));
        check.is("worth(2) of the pay that would count for nothing", 0, x.worth(2));
    }

    private static void best() {
        KnifeLedger x = new KnifeLedger();
        check.is("best() of none", -1, x.best());
        x.join(50);
        check.is("best() without more by any", -1, x.best());
        x.toss(0, 1);
        check.is("best() with a toss that brings coins", -1, x.best());
        x.pay(0, 3);
        check.is("best() is the pay", 2, x.best());
        x.buy(3);
        check.is("best() is the dearer buy", 3, x.best());
        x.strike(3);
        check.is("best() is not what is struck out", 2, x.best());
        x.strike(2);
        check.is("best() is not what, restored, takes coins", -1, x.best());

        KnifeLedger y = new KnifeLedger();
        y.join(50);
        y.toss(0, 2);
        y.strike(1);
        check.is("best() is not what, restored, brings coins", -1, y.best());
    }

    private static void bestOfSeveral() {
        KnifeLedger x = new KnifeLedger();
        x.join(50);
        x.toss(0, 1);
        x.pay(0, 3);
        x.buy(1);
        x.pay(0, 3);
        check.is("best() of two is the first", 2, x.best());
        x.strike(2);
        check.is("best() is the other then", 4, x.best());
        x.shift(4, 0);
        check.is("best() is not a pay that counts for nothing", 4, x.best());

        KnifeLedger y = new KnifeLedger();
        y.join(50);
        y.pay(0, 3);
        check.is("best() is the join, without which none is paid", 0, y.best());
    }

    private static void would() {
        KnifeLedger x = new KnifeLedger();
        x.set(0, 9, 0);
        x.set(2, 4, 9);
        x.join(29);
        x.join(28);
        x.join(20);
        x.join(19);
        int[] thumbs = {0, 1, 3, 4, 9, 10, 20};
        int[] coins = {0, 21, 21, 9, 9, 1, 1};
        for (int i = 0; i < thumbs.length; i++) {
            check.is("would(2, " + thumbs[i] + ")", coins[i], x.would(2, thumbs[i]));
            check.is("would(3, " + thumbs[i] + ")", -1, x.would(3, thumbs[i]));
            check.is("would(4, " + thumbs[i] + ")", -1, x.would(4, thumbs[i]));
        }
        x.go(2);
        check.is("would(0, 1) on stage 2", 16, x.would(0, 1));
        check.is("would(0, 4) on stage 2", 7, x.would(0, 4));
        check.is("would(1, 1) on stage 2", -1, x.would(1, 1));
        x.strike(4);
        check.is("would(1, 1) on stage 0", 21, x.would(1, 1));
    }

    private static void mean() {
        KnifeLedger x = new KnifeLedger();
        check.isExactly("mean() of none", 0.0, x.mean());
        x.join(0);
        check.isExactly("mean() of 0", 0.0, x.mean());
        x.join(1);
        check.isExactly("mean() of 0 and 1", 0.5, x.mean());
        x.join(0);
        check.isExactly("mean() of a third", 1.0 / 3.0, x.mean());
        x.join(100);
        x.join(99);
        x.join(99);
        check.isExactly("mean() of six", 299.0 / 6.0, x.mean());
        x.join(7);
        check.isExactly("mean() with a seventh", 299.0 / 6.0, x.mean());
        x.strike(0);
        check.isExactly("mean() with the seventh in", 306.0 / 6.0, x.mean());
        for (int entry = 0; entry < 7; entry++) {
            if (x.entry(entry, 3) == 0) {
                x.strike(entry);
            }
        }
        check.isExactly("mean() of what is struck out", 0.0, x.mean());
    }

    private static long fold(long... numbers) {
        long d = 1229;
        for (long number : numbers) {
            d = d * 31 + number;
        }
        return d;
    }

    private static void digest() {
        KnifeLedger x = new KnifeLedger();
        check.is("digest() of a new object",
                fold(0, 0, 0, 10, -1, 10, 0, 0, 0, 0, 0, 0, 0, 0, -1, -1, -1, -1, -1, -1),
                x.digest());
        x.set(0, 1, 2);
        x.set(3, 7, 8);
        x.join(50);
        x.toss(0, 6);
        x.pay(1, 4);
        x.buy(5);
        x.strike(1);
        check.is("digest() of four entries",
                fold(4, 1, 2, 0, 2, 0, 1, 2, 0, 0, 0, 0, 7, 8,
                        0, 50, 0, 0, 1, 10,
                        1, 0, 6, 1, 0, 10,
                        4, 1, 4, 0, 0, 10,
                        5, 5, 0, 0, 1, 0,
                        50, -1, -1, -1, -1, -1),
                x.digest());
    }

    private static void digestTellsStatesApart() {
        KnifeLedger x = new KnifeLedger();
        KnifeLedger y = new KnifeLedger();
        x.set(2, 0, 1);
        y.set(2, 1, 0);
        check.isTrue("light and tremble are not the same", x.digest() != y.digest());
        y.set(2, 0, 1);
        check.is("the same state", x.digest(), y.digest());
        x.rest(0);
        x.rest(0);
        y.rest(0);
        y.rest(0);
        x.strike(0);
        y.strike(1);
        check.isTrue("another is struck out", x.digest() != y.digest());
        x.shift(0, 1);
        check.is("the same state by a shift", x.digest(), y.digest());
    }
}
