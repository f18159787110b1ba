/** The boundary cases that the document names for the ledger itself (promises 9 to 12). */
public final class LedgerBoundsTest {
    private static final Check check = new Check();

    public static void main(String[] args) {
        check.runs(
                LedgerBoundsTest::strikeOrRestore, LedgerBoundsTest::strikeNoEntry,
                LedgerBoundsTest::shiftToItsOwnPlace, LedgerBoundsTest::shiftFromEndToEnd,
                LedgerBoundsTest::shiftThoseBetween, LedgerBoundsTest::shiftTellsTheKind,
                LedgerBoundsTest::shiftNoEntryOrPlace, LedgerBoundsTest::tearTheLast,
                LedgerBoundsTest::tearTellsTheKind, LedgerBoundsTest::tearNone,
                LedgerBoundsTest::entryTells, LedgerBoundsTest::entryWithoutThese,
                LedgerBoundsTest::entryStruckOut, LedgerBoundsTest::entryCounts,
                LedgerBoundsTest::entryNoEntry, LedgerBoundsTest::entryNoQuestion);
    }

    /** Joins with trust 0, 1, 2 .. so that each entry can be told from the others. */
    private static KnifeLedger numbered(int entries) {
        KnifeLedger x = new KnifeLedger();
        for (int entry = 0; entry < entries; entry++) {
            x.join(entry);
        }
        return x;
    }

    private static void isOrder(String call, KnifeLedger x, int... due) {
        check.is(call + ": entries", due.length, x.count(0));
        for (int entry = 0; entry < due.length; entry++) {
            check.is(call + ": at " + entry, due[entry], x.entry(entry, 1));
        }
    }

    private static void strikeOrRestore() {
        check.sentence("Promise 9", "Returns whether it is struck out then.");
        int[] sizes = {1, 2, 60};
        for (int size : sizes) {
            int[] ends = {0, size - 1};
            for (int entry : ends) {
                KnifeLedger x = numbered(size);
                String call = "strike(" + entry + ") of " + size;
                check.isTrue(call, x.strike(entry));
                check.is(call + ": struck out", 1, x.count(1));
                check.isFalse(call + " again", x.strike(entry));
                check.is(call + " again: struck out", 0, x.count(1));
                check.isTrue(call + " a third time", x.strike(entry));
            }
        }
    }

    private static void strikeNoEntry() {
        check.sentence("Promise 9", "Throws IndexOutOfBoundsException if there is no such entry");
        int[] sizes = {0, 1, 5, 59, 60};
        for (int size : sizes) {
            KnifeLedger x = numbered(size);
            for (int entry : Ledgers.notWithin(0, size - 1)) {
                check.failsIndex("strike(" + entry + ") of " + size, x, () -> x.strike(entry) ? 1 : 0);
            }
        }
        KnifeLedger x = numbered(5);
        x.tear();
        check.failsIndex("strike(4) of a torn one", x, () -> x.strike(4) ? 1 : 0);
        check.isTrue("strike(3) before it", x.strike(3));
    }

    private static void shiftToItsOwnPlace() {
        check.sentence("Promise 10", "Moves an entry to another place");
        KnifeLedger x = numbered(4);
        x.strike(1);
        for (int entry = 0; entry < 4; entry++) {
            check.is("shift(" + entry + ", " + entry + ")", 0, x.shift(entry, entry));
            isOrder("shift(" + entry + ", " + entry + ")", x, 0, 1, 2, 3);
            check.is("struck out is 1 still", 1, x.entry(1, 3));
        }
        KnifeLedger y = numbered(1);
        check.is("shift(0, 0) of one", 0, y.shift(0, 0));
        isOrder("shift(0, 0) of one", y, 0);
    }

    private static void shiftFromEndToEnd() {
        check.sentence("Promise 10", "Moves an entry to another place; those between move up or down"
                + " by one.");
        int[] sizes = {2, 3, 60};
        for (int size : sizes) {
            KnifeLedger x = numbered(size);
            x.strike(0);
            x.shift(0, size - 1);
            for (int entry = 0; entry < size; entry++) {
                check.is("first to last of " + size + ", at " + entry, (entry + 1) % size,
                        x.entry(entry, 1));
                check.is("first to last of " + size + ", struck out at " + entry,
                        entry == size - 1 ? 1 : 0, x.entry(entry, 3));
            }
            x.shift(size - 1, 0);
            for (int entry = 0; entry < size; entry++) {
                check.is("last to first of " + size + ", at " + entry, entry, x.entry(entry, 1));
            }
            check.is("last to first of " + size + ", struck out", 1, x.entry(0, 3));
            check.is("entries", size, x.count(0));
        }
    }

    private static void shiftThoseBetween() {
        check.sentence("Promise 10", "those between move up or down by one.");
        KnifeLedger x = numbered(6);
        x.shift(1, 4);
        isOrder("shift(1, 4)", x, 0, 2, 3, 4, 1, 5);
        x.shift(4, 1);
        isOrder("shift(4, 1)", x, 0, 1, 2, 3, 4, 5);
        x.shift(2, 3);
        isOrder("shift(2, 3)", x, 0, 1, 3, 2, 4, 5);
        x.shift(4, 3);
        isOrder("shift(4, 3)", x, 0, 1, 3, 4, 2, 5);
    }

    private static void shiftTellsTheKind() {
        check.sentence("Promise 10", "Returns its kind.");
        for (int kind = 0; kind < 6; kind++) {
            KnifeLedger x = Ledgers.ofEachKind();
            check.is("shift(" + kind + ", 5)", kind, x.shift(kind, 5));
            check.is("shift(5, 0)", kind, x.shift(5, 0));
            check.is("shift(0, 0)", kind, x.shift(0, 0));
        }
    }

    private static void shiftNoEntryOrPlace() {
        check.sentence("Promise 10", "Throws IndexOutOfBoundsException if there is no such entry, or"
                + " place is not the number of an entry");
        int[] sizes = {0, 1, 5, 59, 60};
        for (int size : sizes) {
            KnifeLedger x = numbered(size);
            for (int entry : Ledgers.notWithin(0, size - 1)) {
                check.failsIndex("shift(" + entry + ", 0) of " + size, x, () -> x.shift(entry, 0));
                check.failsIndex("shift(0, " + entry + ") of " + size, x, () -> x.shift(0, entry));
                check.failsIndex("shift(" + entry + ", the same) of " + size, x,
                        () -> x.shift(entry, entry));
            }
        }
        KnifeLedger x = numbered(5);
        x.tear();
        check.failsIndex("shift(0, 4) to a torn one's", x, () -> x.shift(0, 4));
        check.failsIndex("shift(4, 0) of a torn one", x, () -> x.shift(4, 0));
        check.is("shift(0, 3)", 0, x.shift(0, 3));
    }

    private static void tearTheLast() {
        check.sentence("Promise 11", "Tears the last entry out.");
        KnifeLedger x = numbered(60);
        x.strike(59);
        x.tear();
        check.is("59 left", 59, x.count(0));
        check.is("none struck out", 0, x.count(1));
        check.failsIndex("entry(59, 0)", x, () -> x.entry(59, 0));
        check.is("the last is the one before", 58, x.entry(58, 1));
        x.strike(0);
        x.tear();
        check.is("what is struck out stays", 1, x.count(1));
        KnifeLedger y = numbered(1);
        y.tear();
        check.is("none left", 0, y.count(0));
        check.is("nobody has joined", 0, y.behind(0, 3));
    }

    private static void tearTellsTheKind() {
        check.sentence("Promise 11", "Returns its kind.");
        KnifeLedger x = Ledgers.ofEachKind();
        x.strike(2);
        for (int kind = 5; kind >= 0; kind--) {
            check.is("tear() with " + kind + " before it", kind, x.tear());
        }
    }

    private static void tearNone() {
        check.sentence("Promise 11", "Throws IllegalStateException if there is none");
        KnifeLedger x = new KnifeLedger();
        check.failsState("tear() of a new object", x, () -> x.tear());
        x.join(50);
        check.is("tear() of one", 0, x.tear());
        check.failsState("tear() behind the last", x, () -> x.tear());
        check.failsState("tear() once more", x, () -> x.tear());
        check.is("buy(1) is the first then", 0, x.buy(1));
        x.strike(0);
        check.is("tear() of one struck out", 5, x.tear());
        check.failsState("tear() behind that", x, () -> x.tear());
    }

    private static void entryTells() {
        check.sentence("Promise 12", "0 its kind, 1 its partner, stage, trust or plasters (what it"
                + " tells first), 2 its thumbs or coins (what it tells as well)");
        KnifeLedger x = new KnifeLedger();
        x.join(100);
        x.toss(5, 20);
        x.rest(5);
        x.go(3);
        x.pay(5, 99);
        x.buy(20);
        x.join(0);
        x.toss(0, 0);
        x.rest(0);
        x.go(0);
        x.pay(0, 1);
        x.buy(1);
        int[] first = {100, 5, 5, 3, 5, 20, 0, 0, 0, 0, 0, 1};
        int[] second = {0, 20, 0, 0, 99, 0, 0, 0, 0, 0, 1, 0};
        for (int entry = 0; entry < 12; entry++) {
            check.is("entry(" + entry + ", 0)", entry % 6, x.entry(entry, 0));
            check.is("entry(" + entry + ", 1)", first[entry], x.entry(entry, 1));
            check.is("entry(" + entry + ", 2)", second[entry], x.entry(entry, 2));
        }
    }

    private static void entryWithoutThese() {
        check.sentence("Promise 12", "0 without these");
        KnifeLedger x = Ledgers.ofEachKind();
        for (int entry = 5; entry >= 0; entry--) {
            x.tear();
        }
        int[] without = {
            x.join(7), x.rest(5), x.go(3), x.buy(9),
        };
        for (int entry : without) {
            check.is("entry(" + entry + ", 2)", 0, x.entry(entry, 2));
        }
        x.toss(0, 20);
        x.tear();
        x.rest(0);
        check.is("entry(4, 2) of a rest where a toss was", 0, x.entry(4, 2));
        x.tear();
        x.pay(0, 99);
        x.tear();
        x.join(3);
        check.is("entry(4, 2) of a join where a pay was", 0, x.entry(4, 2));
    }

    private static void entryStruckOut() {
        check.sentence("Promise 12", "3 1 if it is struck out, else 0");
        KnifeLedger x = Ledgers.ofEachKind();
        for (int entry = 0; entry < 6; entry++) {
            check.is("entry(" + entry + ", 3)", 0, x.entry(entry, 3));
            x.strike(entry);
            check.is("entry(" + entry + ", 3) struck out", 1, x.entry(entry, 3));
            x.strike(entry);
            check.is("entry(" + entry + ", 3) restored", 0, x.entry(entry, 3));
        }
        x.toss(5, 1);
        check.is("entry(6, 3) of one that counts for nothing", 0, x.entry(6, 3));
    }

    private static void entryCounts() {
        check.sentence("Promise 12", "4 1 if it counts, else 0 (struck out, or counting for nothing)");
        KnifeLedger x = Ledgers.ofEachKind();
        for (int entry = 0; entry < 6; entry++) {
            check.is("entry(" + entry + ", 4)", 1, x.entry(entry, 4));
        }
        for (int entry = 5; entry >= 0; entry--) {
            x.strike(entry);
            check.is("entry(" + entry + ", 4) struck out", 0, x.entry(entry, 4));
        }
        x.strike(1);
        check.is("entry(1, 4) restored, without the join", 0, x.entry(1, 4));
        x.strike(0);
        check.is("entry(1, 4) with the join", 1, x.entry(1, 4));
        KnifeLedger y = Ledgers.full();
        check.is("entry(0, 4) of 60", 1, y.entry(0, 4));
        check.is("entry(59, 4) of 60, for nothing", 0, y.entry(59, 4));
        y.tear();
        y.rest(0);
        check.is("entry(59, 4) of 60", 1, y.entry(59, 4));
    }

    private static void entryNoEntry() {
        check.sentence("Promise 12", "Throws IndexOutOfBoundsException if there is no such entry");
        int[] sizes = {0, 1, 5, 59, 60};
        for (int size : sizes) {
            KnifeLedger x = numbered(size);
            for (int entry : Ledgers.notWithin(0, size - 1)) {
                check.failsIndex("entry(" + entry + ", 0) of " + size, x, () -> x.entry(entry, 0));
                check.failsIndex("entry(" + entry + ", 4) of " + size, x, () -> x.entry(entry, 4));
            }
        }
        KnifeLedger x = numbered(5);
        x.tear();
        check.failsIndex("entry(4, 1) of a torn one", x, () -> x.entry(4, 1));
    }

    private static void entryNoQuestion() {
        check.sentence("Promise 12", "or what is not 0 to 4");
        KnifeLedger x = Ledgers.ofEachKind();
        for (int what : Ledgers.notWithin(0, 4)) {
            check.failsIndex("entry(0, " + what + ")", x, () -> x.entry(0, what));
            check.failsIndex("entry(5, " + what + ")", x, () -> x.entry(5, what));
            check.failsIndex("entry(6, " + what + ")", x, () -> x.entry(6, what));
        }
    }
}
