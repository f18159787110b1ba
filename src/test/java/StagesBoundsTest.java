/** The boundary cases that the document names for stages and a new object (promises 1 and 2). */
public final class StagesBoundsTest {
    private static final Check check = new Check();

    public static void main(String[] args) {
        check.runs(
                StagesBoundsTest::stagesAtFirst, StagesBoundsTest::ledgerAtFirst,
                StagesBoundsTest::emptyLedger, StagesBoundsTest::setTellsWhatWasBefore,
                StagesBoundsTest::setNoStage, StagesBoundsTest::setLightOrTremble,
                StagesBoundsTest::setSeveral);
    }

    private static void stagesAtFirst() {
        check.sentence("Terms", "There are 4, 0 to 3; each has light, 0 to 9, and trembles by 0 to 9"
                + " (both 0, at first).");
        for (int stage = 0; stage < 4; stage++) {
            KnifeLedger x = new KnifeLedger();
            x.join(20);
            x.go(stage);
            check.is("light of " + stage + " at first", 12, x.would(0, 1));
            x.set(stage, 9, 0);
            check.is("light 9 of " + stage, 21, x.would(0, 1));
            x.set(stage, 0, 9);
            check.is("trembling by 9 of " + stage, -1, x.would(0, 1));
            x.set(stage, 0, 0);
            check.is("both 0 again of " + stage, 12, x.would(0, 1));
            check.is("set(" + stage + ") in a new object", 0, new KnifeLedger().set(stage, 5, 5));
        }
    }

    private static void ledgerAtFirst() {
        check.sentence("Terms", "there are 10 coins and no plasters, the stage is 0, and no partner"
                + " has joined");
        KnifeLedger x = new KnifeLedger();
        x.set(0, 3, 0);
        check.is("coins", 10, x.behind(0, 0));
        check.is("plasters", 0, x.behind(0, 1));
        check.is("stage", 0, x.behind(0, 2));
        check.is("joined", 0, x.behind(0, 3));
        x.go(3);
        x.join(90);
        x.buy(1);
        int[] first = {10, 0, 0, 0};
        int[] behindAll = {8, 1, 3, 1};
        for (int what = 0; what < 4; what++) {
            // Asked in turns, so that the one can't leave anything to the other.
            check.is("behind(3, " + what + ")", behindAll[what], x.behind(3, what));
            check.is("behind(0, " + what + ") of three", first[what], x.behind(0, what));
        }
    }

    private static void emptyLedger() {
        check.sentence("Promise 1", "Creates an empty ledger.");
        KnifeLedger x = new KnifeLedger();
        int[] counts = {0, 0, 0, 10, -1, 10};
        for (int what = 0; what < 6; what++) {
            check.is("count(" + what + ")", counts[what], x.count(what));
        }
        for (int what = 1; what < 7; what++) {
            check.is("behind(0, " + what + ")", 0, x.behind(0, what));
        }
        for (int partner = 0; partner < 6; partner++) {
            check.is("trust(" + partner + ", 0)", -1, x.trust(partner, 0));
            check.is("would(" + partner + ", 10)", -1, x.would(partner, 10));
        }
        check.is("best()", -1, x.best());
        check.isExactly("mean()", 0.0, x.mean());
        check.failsState("tear()", x, () -> x.tear());
        check.failsIndex("entry(0, 0)", x, () -> x.entry(0, 0));
        check.failsIndex("worth(0)", x, () -> x.worth(0));
    }

    private static void setTellsWhatWasBefore() {
        check.sentence("Promise 2", "Returns 10 * light + tremble, as they were before.");
        for (int stage = 0; stage < 4; stage++) {
            KnifeLedger x = new KnifeLedger();
            check.is("both 0", 0, x.set(stage, 0, 9));
            check.is("the least light, the most trembling", 9, x.set(stage, 9, 0));
            check.is("the most light, the least trembling", 90, x.set(stage, 9, 9));
            check.is("the most of both", 99, x.set(stage, 9, 9));
            check.is("the same again", 99, x.set(stage, 0, 0));
            for (int other = 0; other < 4; other++) {
                check.is("stage " + other + " beside " + stage, 0, x.set(other, 0, 0));
            }
        }
    }

    private static void setNoStage() {
        check.sentence("Promise 2", "Throws IndexOutOfBoundsException if stage is not 0 to 3");
        KnifeLedger x = new KnifeLedger();
        x.set(0, 1, 2);
        x.set(3, 5, 6);
        for (int stage : Ledgers.notWithin(0, 3)) {
            check.failsIndex("set(" + stage + ", 1, 1)", x, () -> x.set(stage, 1, 1));
        }
        check.is("set(0, 0, 0)", 12, x.set(0, 0, 0));
        check.is("set(3, 0, 0)", 56, x.set(3, 0, 0));
    }

    private static void setLightOrTremble() {
        check.sentence("Promise 2", "Throws IllegalArgumentException if light or tremble is not 0 to 9");
        KnifeLedger x = new KnifeLedger();
        x.set(1, 3, 4);
        for (int number : Ledgers.notWithin(0, 9)) {
            check.failsArgument("set(1, " + number + ", 1)", x, () -> x.set(1, number, 1));
            check.failsArgument("set(1, 1, " + number + ")", x, () -> x.set(1, 1, number));
            check.failsArgument("set(1, both " + number + ")", x, () -> x.set(1, number, number));
        }
        check.is("set(1, 0, 9)", 34, x.set(1, 0, 9));
        check.is("set(1, 9, 0)", 9, x.set(1, 9, 0));
        check.is("set(1, 0, 0)", 90, x.set(1, 0, 0));
    }

    private static void setSeveral() {
        check.sentence("Terms", "If several exceptions apply, the one that is named first is thrown.");
        KnifeLedger x = new KnifeLedger();
        for (int stage : Ledgers.notWithin(0, 3)) {
            for (int number : Ledgers.notWithin(0, 9)) {
                check.failsIndex("set(" + stage + ", " + number + ", 0)", x,
                        () -> x.set(stage, number, 0));
                check.failsIndex("set(" + stage + ", 0, " + number + ")", x,
                        () -> x.set(stage, 0, number));
            }
        }
    }
}
