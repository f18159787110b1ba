/** Ledgers that several tests begin with, and numbers that are outside a range. */
final class Ledgers {
    private Ledgers() {
    }

    /** One partner with this trust, then rests of one who never joins, up to so many entries. */
    static KnifeLedger ofSize(int trust, int entries) {
        KnifeLedger x = new KnifeLedger();
        if (entries > 0) {
            x.join(trust);
        }
        for (int entry = 1; entry < entries; entry++) {
            x.rest(5);
        }
        return x;
    }

    static KnifeLedger full() {
        return ofSize(50, 60);
    }

    /** One entry of each kind, by their kinds; all of them count. */
    static KnifeLedger ofEachKind() {
        KnifeLedger x = new KnifeLedger();
        x.join(50);
        x.toss(0, 7);
        x.rest(0);
        x.go(2);
        x.pay(0, 3);
        x.buy(4);
        return x;
    }

    /** Just beside the range, and far away from it. */
    static int[] notWithin(int least, int most) {
        return new int[] {least - 1, most + 1, -1000, 1000, Integer.MIN_VALUE, Integer.MAX_VALUE};
    }
}
