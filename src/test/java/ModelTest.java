/**
 * All promises at once: long runs of drawn calls, wrong ones among them, each answered by the
 * class and by the Model. The numbers are drawn by a fixed rule, so that every run is the same.
 */
public final class ModelTest {
    private static final int RUNS = 60;
    // With the digest at the end these are the 512 that the document promises.
    private static final int CALLS = 511;
    private static final Check check = new Check();

    private static long seed = 20261120;

    public static void main(String[] args) {
        for (int run = 0; run < RUNS; run++) {
            oneRun(run);
        }
        check.end();
    }

    private static int draw(int limit) {
        seed = seed * 6364136223846793005L + 1442695040888963407L;
        return (int) ((seed >>> 33) % limit);
    }

    /** Mostly a number from least to most; now and then one just or far beside them. */
    private static int number(int least, int most) {
        int[] beside = {least - 1, most + 1, Integer.MIN_VALUE, Integer.MAX_VALUE};
        if (most < least || draw(25) == 0) {
            return beside[draw(4)];
        }
        return draw(6) == 0 ? (draw(2) == 0 ? least : most) : least + draw(most - least + 1);
    }

    private static boolean within(int number, int least, int most) {
        return least <= number && number <= most;
    }

    private static String index(boolean holds) {
        return holds ? "" : "IndexOutOfBoundsException";
    }

    private static String argument(boolean holds) {
        return holds ? "" : "IllegalArgumentException";
    }

    private static String state(boolean holds) {
        return holds ? "" : "IllegalStateException";
    }

    private static void compare(String call, Check.Call got, Check.Call want, String... faults) {
        String due = "";
        for (String fault : faults) {
            due = due.isEmpty() ? fault : due;
        }
        if (due.isEmpty()) {
            due = Long.toString(want.answer());
        }
        String answer;
        try {
            answer = Long.toString(got.answer());
        } catch (RuntimeException e) {
            answer = e.getClass().getSimpleName();
        }
        check.is(call + " answered " + answer + ", due is " + due + ":", 1, answer.equals(due) ? 1 : 0);
    }

    private static void oneRun(int run) {
        KnifeLedger x = new KnifeLedger();
        Model m = new Model();
        // Some runs fill the ledger and stay there; others tear more than they write.
        int tears = run % 3 == 0 ? 1 : run % 3 == 1 ? 4 : 9;
        for (int call = 0; call < CALLS; call++) {
            int kind = draw(60);
            String name = "run " + run + ", call " + call + ": ";
            if (kind < 24) {
                write(name, x, m, kind);
            } else if (kind < 24 + tears) {
                compare(name + "tear", x::tear, m::tear, state(!m.entries.isEmpty()));
            } else if (kind < 43) {
                change(name, x, m, kind);
            } else {
                ask(name, x, m, kind);
            }
        }
        compare("run " + run + ": digest at its end", x::digest, m::digest);
    }

    private static void write(String name, KnifeLedger x, Model m, int kind) {
        String room = state(m.entries.size() < 60);
        int partner = number(0, draw(3) == 0 ? 5 : 2);
        String partnerFault = index(within(partner, 0, 5));
        int a = number(0, 100);
        int thumbs = number(0, 20);
        int stage = number(0, 3);
        int coins = draw(2) == 0 ? number(1, 99) : number(1, 20);
        int plasters = draw(2) == 0 ? number(1, 20) : number(1, 3);
        if (kind < 4) {
            compare(name + "join " + a, () -> x.join(a), () -> m.add(0, a, 0),
                    argument(within(a, 0, 100)), room);
        } else if (kind < 13) {
            compare(name + "toss " + partner + " " + thumbs, () -> x.toss(partner, thumbs),
                    () -> m.add(1, partner, thumbs), partnerFault,
                    argument(within(thumbs, 0, 20)), room);
        } else if (kind < 16) {
            compare(name + "rest " + partner, () -> x.rest(partner),
                    () -> m.add(2, partner, 0), partnerFault, room);
        } else if (kind < 18) {
            compare(name + "go " + stage, () -> x.go(stage), () -> m.add(3, stage, 0),
                    index(within(stage, 0, 3)), room);
        } else if (kind < 21) {
            compare(name + "pay " + partner + " " + coins, () -> x.pay(partner, coins),
                    () -> m.add(4, partner, coins), partnerFault,
                    argument(within(coins, 1, 99)), room);
        } else {
            compare(name + "buy " + plasters, () -> x.buy(plasters),
                    () -> m.add(5, plasters, 0), argument(within(plasters, 1, 20)), room);
        }
    }

    private static void change(String name, KnifeLedger x, Model m, int kind) {
        int size = m.entries.size();
        int entry = number(0, size - 1);
        int place = number(0, size - 1);
        int stage = number(0, 3);
        int light = number(0, 9);
        int tremble = number(0, 9);
        if (kind < 36) {
            compare(name + "strike " + entry, () -> x.strike(entry) ? 1 : 0,
                    () -> m.strike(entry), index(within(entry, 0, size - 1)));
        } else if (kind < 40) {
            compare(name + "shift " + entry + " " + place, () -> x.shift(entry, place),
                    () -> m.shift(entry, place),
                    index(within(entry, 0, size - 1) && within(place, 0, size - 1)));
        } else {
            compare(name + "set " + stage + " " + light + " " + tremble,
                    () -> x.set(stage, light, tremble), () -> m.set(stage, light, tremble),
                    index(within(stage, 0, 3)),
                    argument(within(light, 0, 9) && within(tremble, 0, 9)));
        }
    }

    private static void ask(String name, KnifeLedger x, Model m, int kind) {
        int size = m.entries.size();
        int entry = number(0, size - 1);
        int entries = number(0, size);
        int partner = number(0, 5);
        int thumbs = number(0, 20);
        int what = number(0, 6);
        String entryFault = index(within(entry, 0, size - 1));
        String entriesFault = argument(within(entries, 0, size));
        String partnerFault = index(within(partner, 0, 5));
        if (kind < 46) {
            compare(name + "entry " + entry + " " + what, () -> x.entry(entry, what),
                    () -> m.entry(entry, what), entryFault, index(within(what, 0, 4)));
        } else if (kind < 49) {
            compare(name + "behind " + entries + " " + what, () -> x.behind(entries, what),
                    () -> m.behind(entries, what), entriesFault, index(within(what, 0, 6)));
        } else if (kind < 51) {
            compare(name + "trust " + partner + " " + entries, () -> x.trust(partner, entries),
                    () -> m.trust(partner, entries), partnerFault, entriesFault);
        } else if (kind < 53) {
            compare(name + "count " + what, () -> x.count(what), () -> m.count(what),
                    index(within(what, 0, 5)));
        } else if (kind < 55) {
            compare(name + "worth " + entry, () -> x.worth(entry), () -> m.worth(entry), entryFault);
        } else if (kind < 56) {
            compare(name + "best", x::best, m::best);
        } else if (kind < 58) {
            compare(name + "would " + partner + " " + thumbs, () -> x.would(partner, thumbs),
                    () -> m.would(partner, thumbs), partnerFault, argument(within(thumbs, 0, 20)));
        } else if (kind < 59) {
            check.isExactly(name + "mean", m.mean(), x.mean());
        } else {
            compare(name + "digest", x::digest, m::digest);
        }
    }
}
