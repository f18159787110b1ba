/** The boundary cases that the document names for the entries at the end (promises 3 to 8). */
public final class EntriesBoundsTest {
    private static final Check check = new Check();

    private interface Write {
        int on(KnifeLedger x);
    }

    private static final String FIRST_NAMED =
            "If several exceptions apply, the one that is named first is thrown.";
    private static final String[] NAMES = {
        "join(0)", "toss(0, 0)", "rest(0)", "go(0)", "pay(0, 1)", "buy(1)",
    };
    private static final Write[] LEAST = {
        x -> x.join(0), x -> x.toss(0, 0), x -> x.rest(0), x -> x.go(0), x -> x.pay(0, 1),
        x -> x.buy(1),
    };
    private static final Write[] MOST = {
        x -> x.join(100), x -> x.toss(5, 20), x -> x.rest(5), x -> x.go(3), x -> x.pay(5, 99),
        x -> x.buy(20),
    };

    public static void main(String[] args) {
        check.runs(
                EntriesBoundsTest::numbersOfEntries, EntriesBoundsTest::notStruckOutAtFirst,
                EntriesBoundsTest::joinTrust, EntriesBoundsTest::tossPartner,
                EntriesBoundsTest::tossThumbs, EntriesBoundsTest::restPartner,
                EntriesBoundsTest::goStage, EntriesBoundsTest::payPartner,
                EntriesBoundsTest::payCoins, EntriesBoundsTest::buyPlasters,
                () -> thereAreSixty(0), () -> thereAreSixty(1), () -> thereAreSixty(2),
                () -> thereAreSixty(3), () -> thereAreSixty(4), () -> thereAreSixty(5),
                EntriesBoundsTest::sixtyOfAllSorts, EntriesBoundsTest::joinSeveral,
                EntriesBoundsTest::tossSeveral, EntriesBoundsTest::restSeveral,
                EntriesBoundsTest::goSeveral, EntriesBoundsTest::paySeveral,
                EntriesBoundsTest::buySeveral, EntriesBoundsTest::nothingIsChanged);
    }

    private static void numbersOfEntries() {
        check.sentence("Promises 3 to 8", "Returns the number of the entry.");
        for (int kind = 0; kind < 6; kind++) {
            KnifeLedger x = new KnifeLedger();
            for (int entry = 0; entry < 60; entry++) {
                Write write = entry % 2 == 0 ? LEAST[kind] : MOST[kind];
                check.is("kind " + kind + ", entry " + entry, entry, write.on(x));
            }
            check.is("entries", 60, x.count(0));
            check.is("kind of the first", kind, x.entry(0, 0));
            check.is("kind of the last", kind, x.entry(59, 0));
        }
    }

    private static void notStruckOutAtFirst() {
        check.sentence("Terms", "each is struck out, or not (not, at first)");
        for (int kind = 0; kind < 6; kind++) {
            KnifeLedger x = new KnifeLedger();
            check.is(NAMES[kind] + " in an empty ledger", 0, x.entry(LEAST[kind].on(x), 3));
            x.strike(0);
            check.is(NAMES[kind] + " behind one struck out", 0, x.entry(LEAST[kind].on(x), 3));
            x.strike(1);
            x.tear();
            check.is(NAMES[kind] + " where one struck out was", 0, x.entry(LEAST[kind].on(x), 3));
            KnifeLedger y = Ledgers.full();
            y.strike(59);
            y.tear();
            check.is(NAMES[kind] + " as the last", 0, y.entry(LEAST[kind].on(y), 3));
        }
    }

    private static void joinTrust() {
        check.sentence("Promise 3", "Throws IllegalArgumentException if trust is not 0 to 100");
        KnifeLedger x = new KnifeLedger();
        for (int trust : Ledgers.notWithin(0, 100)) {
            check.failsArgument("join(" + trust + ")", x, () -> x.join(trust));
        }
        for (int trust = 0; trust <= 100; trust += 20) {
            check.is("trust of join(" + trust + ")", trust, x.entry(x.join(trust), 1));
        }
        check.is("trust of the first", 0, x.trust(0, 6));
        check.is("trust of the last", 100, x.trust(5, 6));
    }

    private static void tossPartner() {
        check.sentence("Promise 4", "Throws IndexOutOfBoundsException if partner is not 0 to 5");
        KnifeLedger x = new KnifeLedger();
        for (int partner : Ledgers.notWithin(0, 5)) {
            check.failsIndex("toss(" + partner + ", 5)", x, () -> x.toss(partner, 5));
        }
        for (int partner = 0; partner < 6; partner++) {
            check.is("toss(" + partner + ", 5), none has joined", partner, x.entry(x.toss(partner, 5), 1));
        }
    }

    private static void tossThumbs() {
        check.sentence("Promise 4", "Throws IllegalArgumentException if thumbs is not 0 to 20");
        KnifeLedger x = new KnifeLedger();
        for (int thumbs : Ledgers.notWithin(0, 20)) {
            check.failsArgument("toss(0, " + thumbs + ")", x, () -> x.toss(0, thumbs));
            check.failsArgument("toss(5, " + thumbs + ")", x, () -> x.toss(5, thumbs));
        }
        for (int thumbs = 0; thumbs <= 20; thumbs++) {
            check.is("toss(0, " + thumbs + ")", thumbs, x.entry(x.toss(0, thumbs), 2));
        }
    }

    private static void restPartner() {
        check.sentence("Promise 5", "Throws IndexOutOfBoundsException if partner is not 0 to 5");
        KnifeLedger x = new KnifeLedger();
        for (int partner : Ledgers.notWithin(0, 5)) {
            check.failsIndex("rest(" + partner + ")", x, () -> x.rest(partner));
        }
        for (int partner = 0; partner < 6; partner++) {
            check.is("rest(" + partner + "), none has joined", partner, x.entry(x.rest(partner), 1));
        }
    }

    private static void goStage() {
        check.sentence("Promise 6", "Throws IndexOutOfBoundsException if stage is not 0 to 3");
        KnifeLedger x = new KnifeLedger();
        for (int stage : Ledgers.notWithin(0, 3)) {
            check.failsIndex("go(" + stage + ")", x, () -> x.go(stage));
        }
        for (int stage = 0; stage < 4; stage++) {
            check.is("go(" + stage + ")", stage, x.entry(x.go(stage), 1));
        }
    }

    private static void payPartner() {
        check.sentence("Promise 7", "Throws IndexOutOfBoundsException if partner is not 0 to 5");
        KnifeLedger x = new KnifeLedger();
        for (int partner : Ledgers.notWithin(0, 5)) {
            check.failsIndex("pay(" + partner + ", 5)", x, () -> x.pay(partner, 5));
        }
        for (int partner = 0; partner < 6; partner++) {
            check.is("pay(" + partner + ", 5), none has joined", partner, x.entry(x.pay(partner, 5), 1));
        }
    }

    private static void payCoins() {
        check.sentence("Promise 7", "Throws IllegalArgumentException if coins is not 1 to 99");
        KnifeLedger x = new KnifeLedger();
        check.failsArgument("pay(0, -1)", x, () -> x.pay(0, -1));
        for (int coins : Ledgers.notWithin(1, 99)) {
            check.failsArgument("pay(0, " + coins + ")", x, () -> x.pay(0, coins));
            check.failsArgument("pay(5, " + coins + ")", x, () -> x.pay(5, coins));
        }
        int[] taken = {1, 2, 10, 11, 98, 99};
        for (int coins : taken) {
            check.is("pay(0, " + coins + ") with 10 coins there", coins, x.entry(x.pay(0, coins), 2));
        }
    }

    private static void buyPlasters() {
        check.sentence("Promise 8", "Throws IllegalArgumentException if plasters is not 1 to 20");
        KnifeLedger x = new KnifeLedger();
        check.failsArgument("buy(-1)", x, () -> x.buy(-1));
        for (int plasters : Ledgers.notWithin(1, 20)) {
            check.failsArgument("buy(" + plasters + ")", x, () -> x.buy(plasters));
        }
        for (int plasters = 1; plasters <= 20; plasters++) {
            check.is("buy(" + plasters + ")", plasters, x.entry(x.buy(plasters), 1));
        }
    }

    private static void thereAreSixty(int kind) {
        check.sentence("Promise " + (3 + kind), "Throws IllegalStateException if there are 60");
        KnifeLedger x = Ledgers.ofSize(50, 59);
        check.is(NAMES[kind] + " at 59", 59, LEAST[kind].on(x));
        check.failsState(NAMES[kind] + " at 60", x, () -> LEAST[kind].on(x));
        check.failsState("the most of kind " + kind + " at 60", x, () -> MOST[kind].on(x));
        check.is("entries", 60, x.count(0));
        x.tear();
        check.is(NAMES[kind] + " at 59 again", 59, LEAST[kind].on(x));
        check.failsState(NAMES[kind] + " at 60 again", x, () -> LEAST[kind].on(x));
    }

    private static void sixtyOfAllSorts() {
        check.sentence("Terms", "It has at most 60 entries");
        for (int kind = 0; kind < 6; kind++) {
            KnifeLedger x = Ledgers.full();
            Write write = LEAST[kind];
            check.is("those that count for nothing", 59, x.behind(60, 6));
            check.failsState(NAMES[kind] + ", they are among the 60", x, () -> write.on(x));
            for (int entry = 0; entry < 60; entry++) {
                x.strike(entry);
            }
            check.is("those struck out", 60, x.count(1));
            check.failsState(NAMES[kind] + ", they are among the 60", x, () -> write.on(x));
        }
    }

    private static void joinSeveral() {
        check.sentence("Promise 3, Terms", FIRST_NAMED);
        KnifeLedger x = Ledgers.full();
        for (int trust : Ledgers.notWithin(0, 100)) {
            check.failsArgument("join(" + trust + ") at 60", x, () -> x.join(trust));
        }
    }

    private static void tossSeveral() {
        check.sentence("Promise 4, Terms", FIRST_NAMED);
        int[] sizes = {0, 60};
        for (int size : sizes) {
            KnifeLedger x = Ledgers.ofSize(50, size);
            for (int partner : Ledgers.notWithin(0, 5)) {
                for (int thumbs : Ledgers.notWithin(0, 20)) {
                    check.failsIndex("toss(" + partner + ", " + thumbs + ") at " + size, x,
                            () -> x.toss(partner, thumbs));
                }
            }
        }
        KnifeLedger x = Ledgers.full();
        check.failsIndex("toss(6, 5) at 60", x, () -> x.toss(6, 5));
        check.failsIndex("toss(-1, 5) at 60", x, () -> x.toss(-1, 5));
        check.failsArgument("toss(0, 21) at 60", x, () -> x.toss(0, 21));
        check.failsArgument("toss(5, -1) at 60", x, () -> x.toss(5, -1));
    }

    private static void restSeveral() {
        check.sentence("Promise 5, Terms", FIRST_NAMED);
        KnifeLedger x = Ledgers.full();
        for (int partner : Ledgers.notWithin(0, 5)) {
            check.failsIndex("rest(" + partner + ") at 60", x, () -> x.rest(partner));
        }
    }

    private static void goSeveral() {
        check.sentence("Promise 6, Terms", FIRST_NAMED);
        KnifeLedger x = Ledgers.full();
        for (int stage : Ledgers.notWithin(0, 3)) {
            check.failsIndex("go(" + stage + ") at 60", x, () -> x.go(stage));
        }
    }

    private static void paySeveral() {
        check.sentence("Promise 7, Terms", FIRST_NAMED);
        int[] sizes = {0, 60};
        for (int size : sizes) {
            KnifeLedger x = Ledgers.ofSize(50, size);
            for (int partner : Ledgers.notWithin(0, 5)) {
                for (int coins : Ledgers.notWithin(1, 99)) {
                    check.failsIndex("pay(" + partner + ", " + coins + ") at " + size, x,
                            () -> x.pay(partner, coins));
                }
            }
        }
        KnifeLedger x = Ledgers.full();
        check.failsIndex("pay(6, 1) at 60", x, () -> x.pay(6, 1));
        check.failsIndex("pay(-1, 1) at 60", x, () -> x.pay(-1, 1));
        check.failsArgument("pay(0, 100) at 60", x, () -> x.pay(0, 100));
        check.failsArgument("pay(5, 0) at 60", x, () -> x.pay(5, 0));
    }

    private static void buySeveral() {
        check.sentence("Promise 8, Terms", FIRST_NAMED);
        KnifeLedger x = Ledgers.full();
        for (int plasters : Ledgers.notWithin(1, 20)) {
            check.failsArgument("buy(" + plasters + ") at 60", x, () -> x.buy(plasters));
        }
    }

    private static void refused(Check.Call call) {
        try {
            call.answer();
            check.tell("a call that is due to throw answers");
        } catch (RuntimeException e) {
            // Which one it is, is asked elsewhere.
        }
    }

    private static void nothingIsChanged() {
        check.sentence("Terms", "A method that throws an exception changes nothing.");
        KnifeLedger x = Ledgers.ofSize(50, 60);
        KnifeLedger same = Ledgers.ofSize(50, 60);
        for (int kind = 0; kind < 6; kind++) {
            Write write = MOST[kind];
            refused(() -> write.on(x));
        }
        refused(() -> x.join(101));
        refused(() -> x.toss(0, 21));
        refused(() -> x.toss(6, 1));
        refused(() -> x.rest(-1));
        refused(() -> x.go(4));
        refused(() -> x.pay(0, 100));
        refused(() -> x.buy(0));
        refused(() -> x.set(0, 3, 10));
        refused(() -> x.set(0, 10, 3));
        refused(() -> x.set(4, 3, 3));
        refused(() -> x.strike(60) ? 1 : 0);
        refused(() -> x.shift(0, 60));
        refused(() -> x.shift(60, 0));
        check.is("digest()", same.digest(), x.digest());
        check.is("set(0, 0, 0)", 0, x.set(0, 0, 0));
        for (int entry = 59; entry >= 0; entry--) {
            check.is("tear() of " + entry, same.tear(), x.tear());
        }
        refused(() -> x.tear());
        check.is("entries", 0, x.count(0));
        check.is("join(50)", 0, x.join(50));
    }
}
