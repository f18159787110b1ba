import java.math.BigInteger;
import java.util.Arrays;

/** The boundary cases that the document names for what would be (promises 16 to 20). */
public final class WouldBeBoundsTest {
    private static final String NOTHING_CHANGED = "(nothing is changed)";
    private static final Check check = new Check();

    public static void main(String[] args) {
        check.runs(
                WouldBeBoundsTest::worthStruckOut, WouldBeBoundsTest::worthRestored,
                WouldBeBoundsTest::worthAtTheEnds, WouldBeBoundsTest::worthChangesNothing,
                WouldBeBoundsTest::worthNoEntry, WouldBeBoundsTest::bestNotStruckOut,
                WouldBeBoundsTest::bestOfSeveral, WouldBeBoundsTest::bestAtTheEnds,
                WouldBeBoundsTest::bestOfNone, WouldBeBoundsTest::bestChangesNothing,
                WouldBeBoundsTest::wouldBring, WouldBeBoundsTest::wouldForNothing,
                WouldBeBoundsTest::wouldBySize, WouldBeBoundsTest::wouldChangesNothing,
                WouldBeBoundsTest::wouldNoPartner, WouldBeBoundsTest::wouldNoThumbs,
                WouldBeBoundsTest::wouldSeveral, WouldBeBoundsTest::meanWithoutAny,
                WouldBeBoundsTest::meanOfOneToSix, WouldBeBoundsTest::digestOfNone,
                WouldBeBoundsTest::digestWrapsAround, WouldBeBoundsTest::digestOfSixty,
                WouldBeBoundsTest::digestNotJoined);
    }

    private static void worthStruckOut() {
        check.sentence("Promise 16", "Returns the coins behind all, less those that there would be, if"
                + " it was struck out");
        KnifeLedger x = Ledgers.ofEachKind();
        x.toss(1, 1);
        int[] due = {2, -3, 0, 0, -3, -8, 0};
        for (int entry = 0; entry < 7; entry++) {
            check.is("worth(" + entry + ")", due[entry], x.worth(entry));
        }
        x.pay(0, 4);
        check.is("coins, all are spent", 0, x.count(3));
        check.is("worth of a toss, without which the plasters are not bought", -3, x.worth(1));
        check.is("worth of the pay", -4, x.worth(7));
    }

    private static void worthRestored() {
        check.sentence("Promise 16", "or, if it is so now, restored");
        KnifeLedger x = Ledgers.ofEachKind();
        x.strike(1);
        check.is("coins without the toss", 7, x.count(3));
        check.is("worth of the toss, struck out", 3, x.worth(1));
        check.is("worth of the pay then", 5, x.worth(4));
        x.strike(5);
        check.is("worth of the buy, struck out", 0, x.worth(5));
        x.strike(1);
        check.is("worth of the buy, struck out, with the toss", 8, x.worth(5));
        for (int entry = 0; entry < 5; entry++) {
            x.strike(entry);
        }
        int[] alone = {0, 0, 0, 0, 0, 8};
        for (int entry = 0; entry < 6; entry++) {
            check.is("worth(" + entry + ") alone", alone[entry], x.worth(entry));
        }
    }

    private static void worthAtTheEnds() {
        check.sentence("Promise 16", "Returns the coins behind all, less those that there would be");
        KnifeLedger one = new KnifeLedger();
        one.buy(5);
        check.is("worth(0) of one", -10, one.worth(0));
        KnifeLedger x = Ledgers.ofSize(20, 59);
        x.toss(0, 1);
        check.is("worth(0) of 60", 12, x.worth(0));
        check.is("worth(59) of 60", 12, x.worth(59));
        check.is("worth(58) of 60, for nothing", 0, x.worth(58));
        x.strike(59);
        check.is("worth(59) of 60, struck out", -12, x.worth(59));
        check.is("worth(0) of 60 then", 0, x.worth(0));
    }

    private static void worthChangesNothing() {
        check.sentence("Promise 16", NOTHING_CHANGED);
        KnifeLedger x = Ledgers.ofEachKind();
        x.strike(1);
        long before = x.digest();
        for (int entry = 0; entry < 6; entry++) {
            x.worth(entry);
            check.is("digest() behind worth(" + entry + ")", before, x.digest());
        }
        check.is("struck out behind all", 1, x.count(1));
        check.is("plasters behind all", 0, x.behind(5, 1));
    }

    private static void worthNoEntry() {
        check.sentence("Promise 16", "Throws IndexOutOfBoundsException if there is no such entry");
        int[] sizes = {0, 1, 5, 59, 60};
        for (int size : sizes) {
            KnifeLedger x = Ledgers.ofSize(50, size);
            for (int entry : Ledgers.notWithin(0, size - 1)) {
                check.failsIndex("worth(" + entry + ") of " + size, x, () -> x.worth(entry));
            }
        }
        KnifeLedger x = Ledgers.ofSize(50, 5);
        x.tear();
        check.failsIndex("worth(4) of a torn one", x, () -> x.worth(4));
        check.is("worth(3) before it", 0, x.worth(3));
    }

    private static void bestNotStruckOut() {
        check.sentence("Promise 17", "Returns the entry that is not struck out, by which, struck out,"
                + " the most coins would be there behind all");
        KnifeLedger x = new KnifeLedger();
        x.join(20);
        x.toss(0, 1);
        x.pay(0, 9);
        x.buy(3);
        x.buy(2);
        check.is("the dearest", 2, x.best());
        x.strike(2);
        check.is("the dearest but that which is struck out", 3, x.best());
        x.strike(3);
        check.is("the last that is not struck out", 4, x.best());
        x.strike(4);
        check.is("none that takes coins", -1, x.best());
        x.strike(1);
        check.is("not a toss, by which, restored, coins would come", -1, x.best());
    }

    private static void bestOfSeveral() {
        check.sentence("Promise 17", "of several the one with the smallest number");
        KnifeLedger x = new KnifeLedger();
        x.go(0);
        x.buy(1);
        x.buy(2);
        x.buy(1);
        check.is("the one dearer than those beside it", 2, x.best());
        x.strike(2);
        check.is("the first of two", 1, x.best());
        x.shift(1, 0);
        check.is("the first of two, moved to 0", 0, x.best());
        x.strike(0);
        check.is("the other, when the first is struck out", 3, x.best());
        KnifeLedger y = new KnifeLedger();
        for (int entry = 0; entry < 5; entry++) {
            y.buy(1);
        }
        check.is("the first of five", 0, y.best());
    }

    private static void bestAtTheEnds() {
        check.sentence("Promise 17", "the most coins would be there behind all");
        KnifeLedger one = new KnifeLedger();
        one.buy(1);
        check.is("the only one", 0, one.best());
        KnifeLedger x = Ledgers.ofSize(50, 59);
        x.buy(1);
        check.is("the last of 60", 59, x.best());
        x.shift(59, 0);
        check.is("the first of 60", 0, x.best());
        KnifeLedger y = new KnifeLedger();
        y.join(50);
        y.pay(0, 3);
        check.is("a join, without which none is paid, before the pay", 0, y.best());
    }

    private static void bestOfNone() {
        check.sentence("Promise 17", "-1 if there would be no more by any");
        KnifeLedger x = new KnifeLedger();
        check.is("of none", -1, x.best());
        x.join(20);
        check.is("just as many coins by a join", -1, x.best());
        x.go(1);
        x.rest(0);
        x.rest(5);
        x.buy(6);
        x.pay(0, 11);
        check.is("just as many coins by any", -1, x.best());
        x.toss(0, 10);
        check.is("fewer by a toss", -1, x.best());
        KnifeLedger y = new KnifeLedger();
        y.buy(5);
        y.strike(0);
        check.is("all are struck out", -1, y.best());
        check.is("just as many coins by any of 60", -1, Ledgers.full().best());
    }

    private static void bestChangesNothing() {
        check.sentence("Promise 17", NOTHING_CHANGED);
        KnifeLedger x = Ledgers.ofEachKind();
        x.strike(4);
        long before = x.digest();
        check.is("best()", 5, x.best());
        check.is("digest() behind it", before, x.digest());
        check.is("best() again", 5, x.best());
        check.is("struck out", 1, x.count(1));
    }

    private static void wouldBring() {
        check.sentence("Promise 18", "Returns the coins that a toss of this kind at the end of the"
                + " ledger would bring now");
        int[] near = {12, 21};
        int[] middle = {5, 9};
        int[] lights = {0, 9};
        for (int i = 0; i < 2; i++) {
            KnifeLedger x = new KnifeLedger();
            x.join(100);
            x.go(3);
            x.set(3, lights[i], 0);
            String by = ", light " + lights[i] + ")";
            check.is("would(0, 0" + by, 0, x.would(0, 0));
            check.is("would(0, 1" + by, near[i], x.would(0, 1));
            check.is("would(0, 3" + by, near[i], x.would(0, 3));
            check.is("would(0, 4" + by, middle[i], x.would(0, 4));
            check.is("would(0, 9" + by, middle[i], x.would(0, 9));
            check.is("would(0, 10" + by, 1, x.would(0, 10));
            check.is("would(0, 20" + by, 1, x.would(0, 20));
            x.buy(1);
            check.is("would(0, 0" + by + " with a plaster", 0, x.would(0, 0));
        }
    }

    private static void wouldForNothing() {
        check.sentence("Promise 18", "-1 if it would count for nothing");
        KnifeLedger x = new KnifeLedger();
        for (int partner = 0; partner < 6; partner++) {
            check.is("would(" + partner + ", 5) before the join", -1, x.would(partner, 5));
            x.join(20 + partner % 2);
            check.is("would(" + partner + ", 5) behind the join", 5, x.would(partner, 5));
        }
        x.set(0, 0, 1);
        for (int thumbs = 0; thumbs <= 20; thumbs += 10) {
            check.is("would(0, " + thumbs + ") by 20 of 21", -1, x.would(0, thumbs));
            check.is("would(5, " + thumbs + ") by 21 of 21", thumbs == 0 ? 0 : 1, x.would(5, thumbs));
        }
        x.strike(5);
        check.is("would(5, 5) with the join struck out", -1, x.would(5, 5));
        KnifeLedger y = new KnifeLedger();
        y.join(19);
        check.is("would(0, 0) by 19 of 20", -1, y.would(0, 0));
        y.join(29);
        y.set(2, 0, 9);
        y.go(2);
        check.is("would(1, 0) by 29 of 29", 0, y.would(1, 0));
        y.toss(1, 1);
        check.is("would(1, 1) on another stage", -1, y.would(1, 1));
    }

    private static void wouldBySize() {
        check.sentence("Promise 18", "(however many entries there are");
        check.is("would(0, 5) of none", -1, new KnifeLedger().would(0, 5));
        int[] sizes = {1, 59, 60};
        for (int size : sizes) {
            KnifeLedger x = Ledgers.ofSize(20, size);
            check.is("would(0, 2) of " + size, 12, x.would(0, 2));
            check.is("would(0, 0) of " + size, 0, x.would(0, 0));
            check.is("would(1, 2) of " + size, -1, x.would(1, 2));
        }
        KnifeLedger x = Ledgers.ofSize(20, 59);
        x.toss(0, 1);
        check.is("would(0, 2) behind the last of 60, which takes trust", -1, x.would(0, 2));
        KnifeLedger y = Ledgers.ofSize(16, 59);
        y.rest(0);
        check.is("would(0, 2) behind the last of 60, which brings trust", 12, y.would(0, 2));
    }

    private static void wouldChangesNothing() {
        check.sentence("Promise 18", "nothing is changed)");
        KnifeLedger x = new KnifeLedger();
        x.join(20);
        x.buy(1);
        long before = x.digest();
        check.is("would(0, 0)", 0, x.would(0, 0));
        check.is("digest() behind it", before, x.digest());
        check.is("the plaster is there", 1, x.behind(2, 1));
        check.is("the trust is there", 20, x.trust(0, 2));
        check.is("would(0, 1)", 12, x.would(0, 1));
        check.is("would(0, 1) again", 12, x.would(0, 1));
        check.is("entries", 2, x.count(0));
        check.is("coins", 8, x.count(3));
    }

    private static void wouldNoPartner() {
        check.sentence("Promise 18", "Throws IndexOutOfBoundsException if partner is not 0 to 5");
        int[] sizes = {0, 1, 60};
        for (int size : sizes) {
            KnifeLedger x = Ledgers.ofSize(50, size);
            for (int partner : Ledgers.notWithin(0, 5)) {
                check.failsIndex("would(" + partner + ", 5) of " + size, x, () -> x.would(partner, 5));
            }
        }
    }

    private static void wouldNoThumbs() {
        check.sentence("Promise 18", "Throws IllegalArgumentException if thumbs is not 0 to 20");
        int[] sizes = {0, 1, 60};
        for (int size : sizes) {
            KnifeLedger x = Ledgers.ofSize(50, size);
            for (int thumbs : Ledgers.notWithin(0, 20)) {
                check.failsArgument("would(0, " + thumbs + ") of " + size, x, () -> x.would(0, thumbs));
                check.failsArgument("would(5, " + thumbs + ") of " + size, x, () -> x.would(5, thumbs));
            }
        }
    }

    private static void wouldSeveral() {
        check.sentence("Promise 18, Terms", "If several exceptions apply, the one that is named first"
                + " is thrown.");
        KnifeLedger x = Ledgers.full();
        for (int partner : Ledgers.notWithin(0, 5)) {
            for (int thumbs : Ledgers.notWithin(0, 20)) {
                check.failsIndex("would(" + partner + ", " + thumbs + ")", x,
                        () -> x.would(partner, thumbs));
            }
        }
    }

    private static void meanWithoutAny() {
        check.sentence("Promise 19", "0 without any.");
        KnifeLedger x = new KnifeLedger();
        check.isExactly("mean() of no entries", 0.0, x.mean());
        x.rest(0);
        x.go(1);
        x.buy(1);
        check.isExactly("mean() without a join", 0.0, x.mean());
        x.join(80);
        x.strike(3);
        check.isExactly("mean() with the only join struck out", 0.0, x.mean());
        x.strike(3);
        x.tear();
        check.isExactly("mean() with the only join torn out", 0.0, x.mean());
    }

    private static void meanOfOneToSix() {
        check.sentence("Promise 19", "Returns the mean trust of all partners who have joined, behind"
                + " all entries");
        KnifeLedger x = new KnifeLedger();
        int[] trusts = {0, 1, 0, 100, 99, 99, 50};
        double[] due = {0.0, 1.0 / 2, 1.0 / 3, 101.0 / 4, 200.0 / 5, 299.0 / 6, 299.0 / 6};
        for (int i = 0; i < 7; i++) {
            x.join(trusts[i]);
            check.isExactly("mean() of " + (i + 1), due[i], x.mean());
        }
        x.rest(5);
        check.isExactly("mean() behind a rest, held at 100", 300.0 / 6, x.mean());
        KnifeLedger y = new KnifeLedger();
        y.join(100);
        check.isExactly("mean() of the most trust", 100.0, y.mean());
    }

    /** The checksum without any wrapping around, cut to 64 bits at its end only. */
    private static long checksum(int... numbers) {
        BigInteger d = BigInteger.valueOf(1229);
        for (int number : numbers) {
            d = d.multiply(BigInteger.valueOf(31)).add(BigInteger.valueOf(number));
        }
        return d.longValue();
    }

    private static int[] append(int[] numbers, int... more) {
        int[] both = Arrays.copyOf(numbers, numbers.length + more.length);
        System.arraycopy(more, 0, both, numbers.length, more.length);
        return both;
    }

    private static void digestOfNone() {
        check.sentence("Promise 20", "A number d starts with 1229");
        int[] numbers = {0, 0, 0, 10, -1, 10, 0, 0, 0, 0, 0, 0, 0, 0, -1, -1, -1, -1, -1, -1};
        KnifeLedger x = new KnifeLedger();
        check.is("digest() of no entries", checksum(numbers), x.digest());
        check.is("digest() again", checksum(numbers), x.digest());
        x.go(0);
        check.isTrue("another one behind an entry", x.digest() != checksum(numbers));
        x.tear();
        check.is("digest() of none left", checksum(numbers), x.digest());
    }

    private static void digestWrapsAround() {
        check.sentence("Promise 20", "d becomes d * 31 + x, which wraps around as a 64-bit integer");
        KnifeLedger x = new KnifeLedger();
        int[] numbers = {0, 0, 0, 10, -1, 10, 9, 8, 7, 6, 5, 4, 3, 2, -1, -1, -1, -1, -1, -1};
        boolean above = false;
        boolean below = false;
        for (int light = 0; light < 10; light++) {
            numbers[6] = light;
            for (int stage = 0; stage < 4; stage++) {
                x.set(stage, numbers[6 + 2 * stage], numbers[7 + 2 * stage]);
            }
            long due = checksum(numbers);
            above |= due > Integer.MAX_VALUE;
            below |= due < Integer.MIN_VALUE;
            check.is("digest() with light " + light, due, x.digest());
        }
        check.isTrue("some are above 32 bits, some below", above && below);
    }

    private static void digestOfSixty() {
        check.sentence("Promise 20", "for each entry what entry() tells, in its order, and the coins"
                + " behind it");
        KnifeLedger x = new KnifeLedger();
        int[] numbers = {60, 1, 2, 22, 3, 10, 0, 0, 0, 0, 0, 0, 0, 0};
        x.join(100);
        numbers = append(numbers, 0, 100, 0, 0, 1, 10);
        x.buy(5);
        x.strike(1);
        numbers = append(numbers, 5, 5, 0, 1, 0, 10);
        x.toss(0, 3);
        numbers = append(numbers, 1, 0, 3, 0, 1, 22);
        for (int entry = 3; entry < 60; entry++) {
            x.pay(5, 99);
            numbers = append(numbers, 4, 5, 99, 0, 0, 22);
        }
        numbers = append(numbers, 96, -1, -1, -1, -1, -1);
        check.is("digest() of 60 entries", checksum(numbers), x.digest());
    }

    private static void digestNotJoined() {
        check.sentence("Promise 20", "the trust of each partner behind all");
        for (int joined = 0; joined <= 6; joined++) {
            KnifeLedger x = new KnifeLedger();
            int[] numbers = {joined, 0, joined, 10, -1, 10, 0, 0, 0, 0, 0, 0, 0, 0};
            for (int partner = 0; partner < joined; partner++) {
                x.join(partner);
                numbers = append(numbers, 0, partner, 0, 0, 1, 10);
            }
            for (int partner = 0; partner < 6; partner++) {
                numbers = append(numbers, partner < joined ? partner : -1);
            }
            check.is("digest() with " + joined + " who have joined", checksum(numbers), x.digest());
        }
    }
}
