/** The boundary cases that the document names for what there was (promises 13 to 15). */
public final class BehindBoundsTest {
    private static final Check check = new Check();

    public static void main(String[] args) {
        check.runs(
                BehindBoundsTest::behindNoneToAll, BehindBoundsTest::behindCountsForNothing,
                BehindBoundsTest::behindNotSoMany, BehindBoundsTest::behindNoQuestion,
                BehindBoundsTest::behindSeveral, BehindBoundsTest::trustNoneToAll,
                BehindBoundsTest::trustNotJoined, BehindBoundsTest::trustNoPartner,
                BehindBoundsTest::trustNotSoMany, BehindBoundsTest::trustSeveral,
                BehindBoundsTest::countSixty, BehindBoundsTest::countFirstForNothing,
                BehindBoundsTest::countFewestCoins, BehindBoundsTest::countNoQuestion);
    }

    private static void behindNoneToAll() {
        check.sentence("Promise 13", "how many first entries are reckoned, 0 to all");
        KnifeLedger empty = new KnifeLedger();
        int[] first = {10, 0, 0, 0, 0, 0, 0};
        int[] all = {4, 4, 2, 1, 58, 6, 0};
        int[] butOne = {12, 0, 2, 1, 58, 5, 0};
        KnifeLedger x = Ledgers.ofEachKind();
        for (int what = 0; what < 7; what++) {
            check.is("behind(0, " + what + ") of none", first[what], empty.behind(0, what));
            check.is("behind(0, " + what + ") of six", first[what], x.behind(0, what));
            check.is("behind(5, " + what + ") of six", butOne[what], x.behind(5, what));
            check.is("behind(6, " + what + ") of six", all[what], x.behind(6, what));
        }
        KnifeLedger y = Ledgers.full();
        check.is("behind(60, 5) of 60", 1, y.behind(60, 5));
        check.is("behind(60, 6) of 60", 59, y.behind(60, 6));
        check.is("behind(59, 6) of 60", 58, y.behind(59, 6));
        check.is("behind(1, 6) of 60", 0, y.behind(1, 6));
    }

    private static void behindCountsForNothing() {
        check.sentence("Promise 13", "6 entries that count for nothing, without those that are struck"
                + " out");
        KnifeLedger x = Ledgers.full();
        check.is("all but the join", 59, x.behind(60, 6));
        x.strike(0);
        check.is("with the join struck out", 59, x.behind(60, 6));
        x.strike(59);
        check.is("with the last struck out too", 58, x.behind(60, 6));
        check.is("none counts", 0, x.behind(60, 5));
        for (int entry = 1; entry < 59; entry++) {
            x.strike(entry);
        }
        check.is("with all struck out", 0, x.behind(60, 6));
        check.is("none counts still", 0, x.behind(60, 5));
    }

    private static void behindNotSoMany() {
        check.sentence("Promise 13", "Throws IllegalArgumentException if entries is not 0 to the number"
                + " of entries");
        int[] sizes = {0, 1, 5, 59, 60};
        for (int size : sizes) {
            KnifeLedger x = Ledgers.ofSize(50, size);
            for (int entries : Ledgers.notWithin(0, size)) {
                check.failsArgument("behind(" + entries + ", 0) of " + size, x,
                        () -> x.behind(entries, 0));
                check.failsArgument("behind(" + entries + ", 6) of " + size, x,
                        () -> x.behind(entries, 6));
            }
        }
        KnifeLedger x = Ledgers.ofSize(50, 5);
        x.strike(2);
        check.is("behind(5, 6), one of five struck out", 3, x.behind(5, 6));
        x.tear();
        check.failsArgument("behind(5, 0), one of five torn out", x, () -> x.behind(5, 0));
        check.is("behind(4, 6) then", 2, x.behind(4, 6));
    }

    private static void behindNoQuestion() {
        check.sentence("Promise 13", "Throws IndexOutOfBoundsException if what is not 0 to 6");
        KnifeLedger empty = new KnifeLedger();
        KnifeLedger x = Ledgers.ofEachKind();
        for (int what : Ledgers.notWithin(0, 6)) {
            check.failsIndex("behind(0, " + what + ") of none", empty, () -> empty.behind(0, what));
            check.failsIndex("behind(0, " + what + ")", x, () -> x.behind(0, what));
            check.failsIndex("behind(6, " + what + ")", x, () -> x.behind(6, what));
        }
    }

    private static void behindSeveral() {
        check.sentence("Promise 13, Terms", "If several exceptions apply, the one that is named first"
                + " is thrown.");
        KnifeLedger x = Ledgers.ofEachKind();
        for (int entries : Ledgers.notWithin(0, 6)) {
            for (int what : Ledgers.notWithin(0, 6)) {
                check.failsArgument("behind(" + entries + ", " + what + ")", x,
                        () -> x.behind(entries, what));
            }
        }
    }

    private static void trustNoneToAll() {
        check.sentence("Promise 14", "how many first entries are reckoned, 0 to all");
        KnifeLedger empty = new KnifeLedger();
        check.is("trust(0, 0) of none", -1, empty.trust(0, 0));
        KnifeLedger x = Ledgers.ofEachKind();
        int[] due = {-1, 50, 51, 57, 57, 58, 58};
        for (int entries = 0; entries <= 6; entries++) {
            check.is("trust(0, " + entries + ")", due[entries], x.trust(0, entries));
        }
        KnifeLedger y = Ledgers.ofSize(50, 59);
        y.rest(0);
        check.is("trust(0, 59) of 60", 50, y.trust(0, 59));
        check.is("trust(0, 60) of 60", 56, y.trust(0, 60));
    }

    private static void trustNotJoined() {
        check.sentence("Promise 14", "-1 if this one has not joined by then.");
        KnifeLedger x = new KnifeLedger();
        for (int partner = 0; partner < 6; partner++) {
            x.join(0);
        }
        for (int partner = 0; partner < 6; partner++) {
            for (int entries = 0; entries <= 6; entries++) {
                check.is("trust(" + partner + ", " + entries + ")", entries > partner ? 0 : -1,
                        x.trust(partner, entries));
            }
        }
        x.strike(5);
        check.is("trust(5, 6) with this join struck out", -1, x.trust(5, 6));
        x.strike(5);
        x.strike(0);
        check.is("trust(5, 6) with the first struck out", -1, x.trust(5, 6));
        check.is("trust(4, 6) with the first struck out", 0, x.trust(4, 6));
        check.is("trust(4, 5) with the first struck out", -1, x.trust(4, 5));
    }

    private static void trustNoPartner() {
        check.sentence("Promise 14", "Throws IndexOutOfBoundsException if partner is not 0 to 5");
        KnifeLedger empty = new KnifeLedger();
        KnifeLedger x = Ledgers.ofEachKind();
        for (int partner : Ledgers.notWithin(0, 5)) {
            check.failsIndex("trust(" + partner + ", 0) of none", empty, () -> empty.trust(partner, 0));
            check.failsIndex("trust(" + partner + ", 0)", x, () -> x.trust(partner, 0));
            check.failsIndex("trust(" + partner + ", 6)", x, () -> x.trust(partner, 6));
        }
    }

    private static void trustNotSoMany() {
        check.sentence("Promise 14", "Throws IllegalArgumentException if entries is not 0 to the number"
                + " of entries");
        int[] sizes = {0, 1, 5, 59, 60};
        for (int size : sizes) {
            KnifeLedger x = Ledgers.ofSize(50, size);
            for (int entries : Ledgers.notWithin(0, size)) {
                check.failsArgument("trust(0, " + entries + ") of " + size, x,
                        () -> x.trust(0, entries));
                check.failsArgument("trust(5, " + entries + ") of " + size, x,
                        () -> x.trust(5, entries));
            }
        }
        KnifeLedger x = Ledgers.ofSize(50, 5);
        x.tear();
        check.failsArgument("trust(0, 5), one of five torn out", x, () -> x.trust(0, 5));
        check.is("trust(0, 4) then", 50, x.trust(0, 4));
    }

    private static void trustSeveral() {
        check.sentence("Promise 14, Terms", "If several exceptions apply, the one that is named first"
                + " is thrown.");
        KnifeLedger x = Ledgers.ofEachKind();
        for (int partner : Ledgers.notWithin(0, 5)) {
            for (int entries : Ledgers.notWithin(0, 6)) {
                check.failsIndex("trust(" + partner + ", " + entries + ")", x,
                        () -> x.trust(partner, entries));
            }
        }
    }

    private static void countSixty() {
        check.sentence("Promise 15", "0 entries, 1 those that are struck out, 2 those that count, 3"
                + " coins behind all");
        KnifeLedger x = new KnifeLedger();
        x.join(100);
        for (int entry = 1; entry < 60; entry++) {
            x.toss(0, 10);
        }
        int[] due = {60, 0, 60, 69, -1, 10};
        int[] struckOut = {60, 60, 0, 10, -1, 10};
        for (int what = 0; what < 6; what++) {
            check.is("count(" + what + ") of 60", due[what], x.count(what));
        }
        for (int entry = 0; entry < 60; entry++) {
            x.strike(entry);
        }
        for (int what = 0; what < 6; what++) {
            check.is("count(" + what + ") of 60 struck out", struckOut[what], x.count(what));
        }
        x.strike(59);
        int[] forNothing = {60, 59, 0, 10, 59, 10};
        for (int what = 0; what < 6; what++) {
            check.is("count(" + what + ") of 60, one for nothing", forNothing[what], x.count(what));
        }
    }

    private static void countFirstForNothing() {
        check.sentence("Promise 15", "4 the first entry that counts for nothing, without those that are"
                + " struck out, -1 without any");
        KnifeLedger x = new KnifeLedger();
        check.is("of none", -1, x.count(4));
        x.rest(0);
        check.is("the very first", 0, x.count(4));
        x.rest(0);
        check.is("the first of two", 0, x.count(4));
        x.strike(0);
        check.is("the second, the first is struck out", 1, x.count(4));
        x.strike(1);
        check.is("both are struck out", -1, x.count(4));
        KnifeLedger y = new KnifeLedger();
        for (int entry = 0; entry < 59; entry++) {
            y.go(0);
        }
        y.buy(6);
        check.is("the last of 60", 59, y.count(4));
        y.strike(59);
        check.is("all others count", -1, y.count(4));
    }

    private static void countFewestCoins() {
        check.sentence("Promise 15", "5 the fewest coins that there were behind any number of first"
                + " entries, also 0");
        KnifeLedger x = new KnifeLedger();
        check.is("of none", 10, x.count(5));
        x.join(100);
        x.toss(0, 1);
        check.is("those behind 0, when more come in", 10, x.count(5));
        x.pay(0, 12);
        check.is("as many as those behind 0", 10, x.count(5));
        x.pay(0, 1);
        check.is("one fewer behind all", 9, x.count(5));
        x.toss(0, 10);
        check.is("those before the last", 9, x.count(5));
        x.shift(3, 1);
        check.is("those behind the second", 9, x.count(5));
        x.shift(1, 0);
        check.is("a pay that counts for nothing", 10, x.count(5));
        x.buy(5);
        check.is("one behind all", 1, x.count(5));
        x.strike(4);
        check.is("none behind all", 0, x.count(5));
    }

    private static void countNoQuestion() {
        check.sentence("Promise 15", "Throws IndexOutOfBoundsException if what is not 0 to 5");
        KnifeLedger empty = new KnifeLedger();
        KnifeLedger x = Ledgers.full();
        for (int what : Ledgers.notWithin(0, 5)) {
            check.failsIndex("count(" + what + ") of none", empty, () -> empty.count(what));
            check.failsIndex("count(" + what + ") of 60", x, () -> x.count(what));
        }
    }
}
