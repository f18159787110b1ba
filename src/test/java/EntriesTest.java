/** Promises 3 to 8: join, toss, rest, go, pay and buy. */
public final class EntriesTest {
    private static final Check check = new Check();

    public static void main(String[] args) {
        join();
        joinAtMostSix();
        tossNear();
        tossEdgesOfThumbs();
        tossScratch();
        tossAsksTrust();
        tossAsksJoined();
        trustIsHeld();
        rest();
        go();
        pay();
        buy();
        refusals();
        fullLedger();
        check.end();
    }

    private static void join() {
        KnifeLedger x = new KnifeLedger();
        check.is("join(0)", 0, x.join(0));
        check.is("join(100)", 1, x.join(100));
        check.is("join(37)", 2, x.join(37));
        check.is("trust of 0", 0, x.trust(0, 3));
        check.is("trust of 1", 100, x.trust(1, 3));
        check.is("trust of 2", 37, x.trust(2, 3));
        check.is("trust of 3", -1, x.trust(3, 3));
        check.is("kind", 0, x.entry(2, 0));
        check.is("its trust", 37, x.entry(2, 1));
        check.is("without more", 0, x.entry(2, 2));
        check.is("coins", 10, x.count(3));
    }

    private static void joinAtMostSix() {
        KnifeLedger x = new KnifeLedger();
        for (int partner = 0; partner < 6; partner++) {
            x.join(10 + partner);
        }
        check.is("the seventh join", 6, x.join(99));
        check.is("the sixth counts", 1, x.entry(5, 4));
        check.is("the seventh counts for nothing", 0, x.entry(6, 4));
        check.is("joined", 6, x.behind(7, 3));
        check.is("trust of all", 75, x.behind(7, 4));
        x.strike(0);
        check.is("the seventh counts then", 1, x.entry(6, 4));
        check.is("trust of the last then", 99, x.trust(5, 7));
    }

    private static void tossNear() {
        KnifeLedger x = new KnifeLedger();
        x.set(0, 7, 0);
        x.join(50);
        check.is("toss(0, 2)", 1, x.toss(0, 2));
        check.is("coins behind a near one", 29, x.count(3));
        check.is("trust behind a near one", 46, x.trust(0, 2));
        check.is("toss(0, 5)", 2, x.toss(0, 5));
        check.is("coins behind a middle one", 37, x.count(3));
        check.is("trust behind a middle one", 47, x.trust(0, 3));
        check.is("toss(0, 15)", 3, x.toss(0, 15));
        check.is("coins behind a far one", 38, x.count(3));
        check.is("trust behind a far one", 50, x.trust(0, 4));
        check.is("kind", 1, x.entry(3, 0));
        check.is("partner", 0, x.entry(3, 1));
        check.is("thumbs", 15, x.entry(3, 2));
    }

    private static void tossEdgesOfThumbs() {
        int[] thumbs = {1, 3, 4, 9, 10, 20};
        int[] coins = {21, 21, 9, 9, 1, 1};
        int[] trust = {-4, -4, 1, 1, 3, 3};
        for (int i = 0; i < thumbs.length; i++) {
            KnifeLedger x = new KnifeLedger();
            x.set(0, 9, 0);
            x.join(10);
            x.join(60);
            x.toss(1, thumbs[i]);
            check.is("coins by " + thumbs[i] + " thumbs", 10 + coins[i], x.count(3));
            check.is("trust by " + thumbs[i] + " thumbs", 60 + trust[i], x.trust(1, 3));
            check.is("trust of another", 10, x.trust(0, 3));
        }
    }

    private static void tossScratch() {
        KnifeLedger x = new KnifeLedger();
        x.set(0, 9, 0);
        x.join(100);
        x.join(90);
        x.buy(1);
        x.toss(0, 0);
        check.is("trust by a scratch with a plaster", 70, x.trust(0, 4));
        check.is("the plaster is used up", 0, x.behind(4, 1));
        check.is("a scratch brings no coins", 8, x.count(3));
        x.toss(0, 0);
        check.is("trust by a scratch without", 10, x.trust(0, 5));
        check.is("no plasters", 0, x.behind(5, 1));
        check.is("a scratch without brings no coins", 8, x.count(3));
        check.is("the other's trust", 90, x.trust(1, 5));
        check.is("a scratch counts", 1, x.entry(4, 4));
    }

    private static void tossAsksTrust() {
        KnifeLedger x = new KnifeLedger();
        x.join(20);
        x.join(19);
        x.toss(0, 10);
        x.toss(1, 10);
        check.is("20 is enough", 1, x.entry(2, 4));
        check.is("19 is not", 0, x.entry(3, 4));
        check.is("coins by one of both", 11, x.count(3));
        check.is("trust of 1 stays", 19, x.trust(1, 4));
        x.set(0, 0, 1);
        check.is("20 is not enough where it trembles", 0, x.entry(2, 4));
        x.set(0, 0, 0);
        x.set(2, 0, 9);
        x.go(2);
        x.join(29);
        x.join(28);
        x.toss(2, 4);
        x.toss(3, 4);
        check.is("29 is enough where it trembles by 9", 1, x.entry(7, 4));
        check.is("28 is not", 0, x.entry(8, 4));
        check.is("the toss on stage 0 stays", 1, x.entry(2, 4));
    }

    private static void tossAsksJoined() {
        KnifeLedger x = new KnifeLedger();
        x.toss(0, 5);
        x.join(50);
        x.toss(1, 5);
        x.toss(5, 5);
        check.is("before the join", 0, x.entry(0, 4));
        check.is("of one who has not joined", 0, x.entry(2, 4));
        check.is("of the last who has not joined", 0, x.entry(3, 4));
        check.is("coins", 10, x.count(3));
        x.shift(0, 1);
        check.is("behind the join", 1, x.entry(1, 4));
    }

    private static void trustIsHeld() {
        KnifeLedger x = new KnifeLedger();
        x.join(100);
        x.toss(0, 5);
        check.is("100 and 1 more", 100, x.trust(0, 2));
        x.toss(0, 12);
        check.is("100 and 3 more", 100, x.trust(0, 3));
        x.rest(0);
        check.is("100 and 6 more", 100, x.trust(0, 4));
        x.pay(0, 9);
        check.is("100 and 3 for coins", 100, x.trust(0, 5));
        x.toss(0, 0);
        x.rest(0);
        x.toss(0, 0);
        check.is("46 less 60", 0, x.trust(0, 8));
        x.rest(0);
        check.is("6 more from 0", 6, x.trust(0, 9));

        KnifeLedger y = new KnifeLedger();
        y.buy(1);
        y.join(29);
        y.toss(0, 0);
        check.is("29 less 30", 0, y.trust(0, 3));
        y.join(97);
        y.rest(1);
        check.is("97 and 6 more", 100, y.trust(1, 5));
    }

    private static void rest() {
        KnifeLedger x = new KnifeLedger();
        check.is("rest(0)", 0, x.rest(0));
        x.join(30);
        x.join(40);
        check.is("rest(1)", 3, x.rest(1));
        check.is("rest(5)", 4, x.rest(5));
        check.is("before the join", 0, x.entry(0, 4));
        check.is("of one who has joined", 1, x.entry(3, 4));
        check.is("of one who has not", 0, x.entry(4, 4));
        check.is("trust", 46, x.trust(1, 5));
        check.is("trust of the other", 30, x.trust(0, 5));
        check.is("coins", 10, x.count(3));
        check.is("kind", 2, x.entry(3, 0));
        check.is("partner", 1, x.entry(3, 1));
        check.is("without more", 0, x.entry(3, 2));
    }

    private static void go() {
        KnifeLedger x = new KnifeLedger();
        x.set(3, 6, 0);
        x.join(50);
        check.is("go(3)", 1, x.go(3));
        check.is("the stage", 3, x.behind(2, 2));
        check.is("the stage before", 0, x.behind(1, 2));
        x.toss(0, 1);
        check.is("coins with this light", 28, x.count(3));
        check.is("go(3) again", 3, x.go(3));
        check.is("go(0)", 4, x.go(0));
        check.is("it counts always", 1, x.entry(3, 4));
        x.toss(0, 1);
        check.is("coins with the light of stage 0", 40, x.count(3));
        check.is("kind", 3, x.entry(1, 0));
        check.is("its stage", 3, x.entry(1, 1));
        check.is("without more", 0, x.entry(1, 2));
    }

    private static void pay() {
        KnifeLedger x = new KnifeLedger();
        x.join(50);
        check.is("pay(0, 11)", 1, x.pay(0, 11));
        check.is("11 of 10 coins", 0, x.entry(1, 4));
        check.is("coins stay", 10, x.count(3));
        check.is("pay(0, 2)", 2, x.pay(0, 2));
        check.is("2 / 3 is 0", 50, x.trust(0, 3));
        check.is("2 coins go", 8, x.count(3));
        check.is("pay(0, 8)", 3, x.pay(0, 8));
        check.is("8 of 8 coins", 1, x.entry(3, 4));
        check.is("8 / 3 is 2", 52, x.trust(0, 4));
        check.is("no coins", 0, x.count(3));
        check.is("pay(0, 1)", 4, x.pay(0, 1));
        check.is("1 of 0 coins", 0, x.entry(4, 4));
        check.is("kind", 4, x.entry(1, 0));
        check.is("partner", 0, x.entry(1, 1));
        check.is("coins", 11, x.entry(1, 2));

        KnifeLedger y = new KnifeLedger();
        y.pay(0, 3);
        y.join(50);
        y.pay(1, 3);
        check.is("before the join", 0, y.entry(0, 4));
        check.is("of one who has not joined", 0, y.entry(2, 4));
        check.is("coins stay", 10, y.count(3));
    }

    private static void buy() {
        KnifeLedger x = new KnifeLedger();
        check.is("buy(6)", 0, x.buy(6));
        check.is("12 of 10 coins", 0, x.entry(0, 4));
        check.is("no plasters", 0, x.behind(1, 1));
        check.is("buy(2)", 1, x.buy(2));
        check.is("coins", 6, x.count(3));
        check.is("plasters", 2, x.behind(2, 1));
        check.is("buy(3)", 2, x.buy(3));
        check.is("6 of 6 coins", 1, x.entry(2, 4));
        check.is("coins then", 0, x.count(3));
        check.is("plasters then", 5, x.behind(3, 1));
        check.is("kind", 5, x.entry(1, 0));
        check.is("its plasters", 2, x.entry(1, 1));
        check.is("without more", 0, x.entry(1, 2));
    }

    private static void refusals() {
        KnifeLedger x = new KnifeLedger();
        x.join(50);
        int[] nobody = {-1, 6, Integer.MIN_VALUE, Integer.MAX_VALUE};
        for (int partner : nobody) {
            check.failsIndex("toss(" + partner + ", 21)", x, () -> x.toss(partner, 21));
            check.failsIndex("toss(" + partner + ", 1)", x, () -> x.toss(partner, 1));
            check.failsIndex("rest(" + partner + ")", x, () -> x.rest(partner));
            check.failsIndex("pay(" + partner + ", 0)", x, () -> x.pay(partner, 0));
            check.failsIndex("pay(" + partner + ", 1)", x, () -> x.pay(partner, 1));
        }
        int[] noStages = {-1, 4, Integer.MIN_VALUE, Integer.MAX_VALUE};
        for (int stage : noStages) {
            check.failsIndex("go(" + stage + ")", x, () -> x.go(stage));
        }
        int[] noTrust = {-1, 101, Integer.MIN_VALUE, Integer.MAX_VALUE};
        for (int trust : noTrust) {
            check.failsArgument("join(" + trust + ")", x, () -> x.join(trust));
        }
        int[] noThumbs = {-1, 21, Integer.MIN_VALUE, Integer.MAX_VALUE};
        for (int thumbs : noThumbs) {
            check.failsArgument("toss(5, " + thumbs + ")", x, () -> x.toss(5, thumbs));
        }
        int[] noCoins = {0, 100, -1, Integer.MIN_VALUE, Integer.MAX_VALUE};
        for (int coins : noCoins) {
            check.failsArgument("pay(5, " + coins + ")", x, () -> x.pay(5, coins));
        }
        int[] noPlasters = {0, 21, -1, Integer.MIN_VALUE, Integer.MAX_VALUE};
        for (int plasters : noPlasters) {
            check.failsArgument("buy(" + plasters + ")", x, () -> x.buy(plasters));
        }
        check.is("toss(5, 20) is taken", 1, x.toss(5, 20));
        check.is("toss(0, 0) is taken", 2, x.toss(0, 0));
        check.is("pay(5, 99) is taken", 3, x.pay(5, 99));
        check.is("pay(0, 1) is taken", 4, x.pay(0, 1));
        check.is("buy(20) is taken", 5, x.buy(20));
        check.is("buy(1) is taken", 6, x.buy(1));
    }

    private static void fullLedger() {
        KnifeLedger x = new KnifeLedger();
        x.join(100);
        for (int entry = 1; entry < 60; entry++) {
            check.is("rest " + entry, entry, x.rest(entry % 6));
        }
        check.is("entries", 60, x.count(0));
        x.strike(59);
        check.failsState("join(50) at 60", x, () -> x.join(50));
        check.failsState("toss(0, 5) at 60", x, () -> x.toss(0, 5));
        check.failsState("rest(0) at 60", x, () -> x.rest(0));
        check.failsState("go(0) at 60", x, () -> x.go(0));
        check.failsState("pay(0, 1) at 60", x, () -> x.pay(0, 1));
        check.failsState("buy(1) at 60", x, () -> x.buy(1));
        check.failsArgument("join(101) at 60", x, () -> x.join(101));
        check.failsArgument("toss(0, 21) at 60", x, () -> x.toss(0, 21));
        check.failsIndex("toss(6, 21) at 60", x, () -> x.toss(6, 21));
        check.failsIndex("rest(6) at 60", x, () -> x.rest(6));
        check.failsIndex("go(4) at 60", x, () -> x.go(4));
        check.failsArgument("pay(0, 0) at 60", x, () -> x.pay(0, 0));
        check.failsIndex("pay(-1, 0) at 60", x, () -> x.pay(-1, 0));
        check.failsArgument("buy(21) at 60", x, () -> x.buy(21));
        check.is("would(0, 5) at 60", 5, x.would(0, 5));
        x.tear();
        check.is("join(50) at 59", 59, x.join(50));
        check.is("it is not struck out, as the torn one was", 0, x.entry(59, 3));
    }
}
