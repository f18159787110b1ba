/** The ledger of a knife thrower's apprentice. */
public final class KnifeLedger {
    private static final int STAGES = 4;
    private static final int PARTNERS = 6;
    private static final int MOST_ENTRIES = 60;
    private static final int MOST_LIGHT_OR_TREMBLE = 9;
    private static final int MOST_TRUST = 100;
    private static final int MOST_THUMBS = 20;
    private static final int MOST_COINS_PAID = 99;
    private static final int MOST_PLASTERS_BOUGHT = 20;
    private static final int ENTRY_QUESTIONS = 5;
    private static final int BEHIND_QUESTIONS = 7;
    private static final int COUNT_QUESTIONS = 6;
    private static final int NONE = -1;

    private static final int JOIN = 0;
    private static final int TOSS = 1;
    private static final int REST = 2;
    private static final int GO = 3;
    private static final int PAY = 4;
    private static final int BUY = 5;

    private final int[] kinds = new int[MOST_ENTRIES];
    private final int[] firsts = new int[MOST_ENTRIES];
    private final int[] seconds = new int[MOST_ENTRIES];
    private final boolean[] struck = new boolean[MOST_ENTRIES];
    private int size = 0;

    // One reckoning serves every call: each starts it anew, so that no call makes objects.
    private final Reckoning reckoning = new Reckoning();

    public KnifeLedger() {
    }

    // ---- stages

    public int set(int stage, int light, int tremble)
            throws IndexOutOfBoundsException, IllegalArgumentException {
        needIndex(stage, STAGES);
        needWithin(light, 0, MOST_LIGHT_OR_TREMBLE);
        needWithin(tremble, 0, MOST_LIGHT_OR_TREMBLE);
        int before = 10 * reckoning.lights[stage] + reckoning.trembles[stage];
        reckoning.lights[stage] = light;
        reckoning.trembles[stage] = tremble;
        return before;
    }

    // ---- entries, at the end of the ledger

    public int join(int trust) throws IllegalArgumentException, IllegalStateException {
        needWithin(trust, 0, MOST_TRUST);
        return append(JOIN, trust, 0);
    }

    public int toss(int partner, int thumbs)
            throws IndexOutOfBoundsException, IllegalArgumentException, IllegalStateException {
        needIndex(partner, PARTNERS);
        needWithin(thumbs, 0, MOST_THUMBS);
        return append(TOSS, partner, thumbs);
    }

    public int rest(int partner) throws IndexOutOfBoundsException, IllegalStateException {
        needIndex(partner, PARTNERS);
        return append(REST, partner, 0);
    }

    public int go(int stage) throws IndexOutOfBoundsException, IllegalStateException {
        needIndex(stage, STAGES);
        return append(GO, stage, 0);
    }

    public int pay(int partner, int coins)
            throws IndexOutOfBoundsException, IllegalArgumentException, IllegalStateException {
        needIndex(partner, PARTNERS);
        needWithin(coins, 1, MOST_COINS_PAID);
        return append(PAY, partner, coins);
    }

    public int buy(int plasters) throws IllegalArgumentException, IllegalStateException {
        needWithin(plasters, 1, MOST_PLASTERS_BOUGHT);
        return append(BUY, plasters, 0);
    }

    // ---- the ledger itself

    public boolean strike(int entry) throws IndexOutOfBoundsException {
        needIndex(entry, size);
        struck[entry] = !struck[entry];
        return struck[entry];
    }

    public int shift(int entry, int place) throws IndexOutOfBoundsException {
        needIndex(entry, size);
        needIndex(place, size);
        int kind = kinds[entry];
        for (int at = entry; at < place; at++) {
            swap(at, at + 1);
        }
        for (int at = entry; at > place; at--) {
            swap(at, at - 1);
        }
        return kind;
    }

    public int tear() throws IllegalStateException {
        if (size == 0) {
            throw new IllegalStateException("the ledger is empty");
        }
        size--;
        return kinds[size];
    }

    public int entry(int entry, int what) throws IndexOutOfBoundsException {
        needIndex(entry, size);
        needIndex(what, ENTRY_QUESTIONS);
        switch (what) {
            case 0:
                return kinds[entry];
            case 1:
                return firsts[entry];
            case 2:
                return seconds[entry];
            case 3:
                return struck[entry] ? 1 : 0;
            default:
                return counts(entry) ? 1 : 0;
        }
    }

    // ---- what there was

    public int behind(int entries, int what)
            throws IllegalArgumentException, IndexOutOfBoundsException {
        needWithin(entries, 0, size);
        needIndex(what, BEHIND_QUESTIONS);
        reckon(entries, NONE);
        switch (what) {
            case 0:
                return reckoning.coins;
            case 1:
                return reckoning.plasters;
            case 2:
                return reckoning.stage;
            case 3:
                return reckoning.joined;
            case 4:
                return reckoning.trustOfAll();
            case 5:
                return reckoning.counting;
            default:
                return reckoning.idle;
        }
    }

    public int trust(int partner, int entries)
            throws IndexOutOfBoundsException, IllegalArgumentException {
        needIndex(partner, PARTNERS);
        needWithin(entries, 0, size);
        reckon(entries, NONE);
        return reckoning.hasJoined(partner) ? reckoning.trusts[partner] : NONE;
    }

    public int count(int what) throws IndexOutOfBoundsException {
        needIndex(what, COUNT_QUESTIONS);
        reckon(size, NONE);
        switch (what) {
            case 0:
                return size;
            case 1:
                return size - reckoning.counting - reckoning.idle;
            case 2:
                return reckoning.counting;
            case 3:
                return reckoning.coins;
            case 4:
                return reckoning.firstIdle;
            default:
                return reckoning.fewestCoins;
        }
    }

    // ---- what would be

    public int worth(int entry) throws IndexOutOfBoundsException {
        needIndex(entry, size);
        return coinsBehindAll(NONE) - coinsBehindAll(entry);
    }

    public int best() {
        int best = NONE;
        int most = coinsBehindAll(NONE);
        for (int entry = 0; entry < size; entry++) {
            if (struck[entry]) {
                continue;
            }
            int coins = coinsBehindAll(entry);
            if (coins > most) {
                most = coins;
                best = entry;
            }
        }
        return best;
    }

    public int would(int partner, int thumbs)
            throws IndexOutOfBoundsException, IllegalArgumentException {
        needIndex(partner, PARTNERS);
        needWithin(thumbs, 0, MOST_THUMBS);
        reckon(size, NONE);
        return reckoning.standsFor(partner) ? reckoning.takings(thumbs) : NONE;
    }

    public double mean() {
        reckon(size, NONE);
        if (reckoning.joined == 0) {
            return 0;
        }
        return (double) reckoning.trustOfAll() / reckoning.joined;
    }

    public long digest() {
        long d = 1229;
        for (int what = 0; what < COUNT_QUESTIONS; what++) {
            d = d * 31 + count(what);
        }
        for (int stage = 0; stage < STAGES; stage++) {
            d = d * 31 + reckoning.lights[stage];
            d = d * 31 + reckoning.trembles[stage];
        }
        for (int entry = 0; entry < size; entry++) {
            for (int what = 0; what < ENTRY_QUESTIONS; what++) {
                d = d * 31 + entry(entry, what);
            }
            d = d * 31 + behind(entry + 1, 0);
        }
        for (int partner = 0; partner < PARTNERS; partner++) {
            d = d * 31 + trust(partner, size);
        }
        return d;
    }

    // ---- within

    private static void needIndex(int index, int limit) {
        if (index < 0 || index >= limit) {
            throw new IndexOutOfBoundsException("there is no such number");
        }
    }

    private static void needWithin(int value, int least, int most) {
        if (value < least || value > most) {
            throw new IllegalArgumentException("too small or too large");
        }
    }

    private int append(int kind, int first, int second) {
        if (size >= MOST_ENTRIES) {
            throw new IllegalStateException("the ledger is full");
        }
        kinds[size] = kind;
        firsts[size] = first;
        seconds[size] = second;
        struck[size] = false;
        size++;
        return size - 1;
    }

    private void swap(int one, int other) {
        swapNumbers(kinds, one, other);
        swapNumbers(firsts, one, other);
        swapNumbers(seconds, one, other);
        boolean kept = struck[one];
        struck[one] = struck[other];
        struck[other] = kept;
    }

    private static void swapNumbers(int[] numbers, int one, int other) {
        int kept = numbers[one];
        numbers[one] = numbers[other];
        numbers[other] = kept;
    }

    /** Reckons the first entries, as if the entry "flipped" (or NONE) were struck out or restored. */
    private void reckon(int entries, int flipped) {
        reckoning.begin();
        for (int entry = 0; entry < entries; entry++) {
            boolean out = struck[entry] != (entry == flipped);
            if (!out) {
                boolean held = reckoning.happens(kinds[entry], firsts[entry], seconds[entry]);
                reckoning.tally(entry, held);
            }
        }
    }

    private int coinsBehindAll(int flipped) {
        reckon(size, flipped);
        return reckoning.coins;
    }

    private boolean counts(int entry) {
        if (struck[entry]) {
            return false;
        }
        reckon(entry, NONE);
        return reckoning.happens(kinds[entry], firsts[entry], seconds[entry]);
    }

    /** What there is behind the entries that have been reckoned so far. */
    private static final class Reckoning {
        private static final int FIRST_COINS = 10;
        private static final int LEAST_TRUST_FOR_TOSS = 20;
        private static final int PLASTER_PRICE = 2;

        // The stages stand here, as a constructor hands nothing out of the object that it makes.
        private final int[] lights = new int[STAGES];
        private final int[] trembles = new int[STAGES];
        private final int[] trusts = new int[PARTNERS];
        private int coins;
        private int plasters;
        private int stage;
        private int joined;
        private int counting;
        private int idle;
        private int firstIdle;
        private int fewestCoins;

        private void begin() {
            coins = FIRST_COINS;
            plasters = 0;
            stage = 0;
            joined = 0;
            counting = 0;
            idle = 0;
            firstIdle = NONE;
            fewestCoins = FIRST_COINS;
        }

        /** Takes down an entry that is not struck out; held: what it asks held, so it counts. */
        private void tally(int entry, boolean held) {
            if (held) {
                counting++;
                fewestCoins = Math.min(fewestCoins, coins);
                return;
            }
            if (idle == 0) {
                firstIdle = entry;
            }
            idle++;
        }

        /** Does what an entry tells, if what it asks holds; answers whether it holds. */
        private boolean happens(int kind, int first, int second) {
            switch (kind) {
                case JOIN:
                    return happensJoin(first);
                case TOSS:
                    return happensToss(first, second);
                case REST:
                    return happensRest(first);
                case GO:
                    stage = first;
                    return true;
                case PAY:
                    return happensPay(first, second);
                default:
                    return happensBuy(first);
            }
        }

        private boolean happensJoin(int trust) {
            if (joined >= PARTNERS) {
                return false;
            }
            trusts[joined] = trust;
            joined++;
            return true;
        }

        private boolean happensToss(int partner, int thumbs) {
            if (!standsFor(partner)) {
                return false;
            }
            coins += takings(thumbs);
            addTrust(partner, trustMore(thumbs));
            if (thumbs == 0 && plasters > 0) {
                plasters--;
            }
            return true;
        }

        private boolean happensRest(int partner) {
            if (!hasJoined(partner)) {
                return false;
            }
            addTrust(partner, 6);
            return true;
        }

        private boolean happensPay(int partner, int paid) {
            if (!hasJoined(partner) || coins < paid) {
                return false;
            }
            coins -= paid;
            addTrust(partner, paid / 3);
            return true;
        }

        private boolean happensBuy(int bought) {
            int price = PLASTER_PRICE * bought;
            if (coins < price) {
                return false;
            }
            coins -= price;
            plasters += bought;
            return true;
        }

        private boolean hasJoined(int partner) {
            return partner < joined;
        }

        /** Whether this partner has joined, and trusts enough for a toss on this stage. */
        private boolean standsFor(int partner) {
            return hasJoined(partner)
                    && trusts[partner] >= LEAST_TRUST_FOR_TOSS + trembles[stage];
        }

        /** The coins that come in by a toss on this stage. */
        private int takings(int thumbs) {
            if (thumbs == 0) {
                return 0;
            }
            if (thumbs <= 3) {
                return 12 + lights[stage];
            }
            if (thumbs <= 9) {
                return 5 + lights[stage] / 2;
            }
            return 1;
        }

        /** How much more a partner trusts by a toss, with the plasters that there are before it. */
        private int trustMore(int thumbs) {
            if (thumbs == 0) {
                return plasters > 0 ? -30 : -60;
            }
            if (thumbs <= 3) {
                return -4;
            }
            if (thumbs <= 9) {
                return 1;
            }
            return 3;
        }

        private void addTrust(int partner, int more) {
            trusts[partner] = Math.max(0, Math.min(MOST_TRUST, trusts[partner] + more));
        }

        private int trustOfAll() {
            int sum = 0;
            for (int partner = 0; partner < joined; partner++) {
                sum += trusts[partner];
            }
            return sum;
        }
    }
}
