/** The boundary cases of the document's terms: partners, trust, and what each kind asks and does. */
public final class KindsBoundsTest {
    private static final Check check = new Check();

    public static void main(String[] args) {
        check.runs(
                KindsBoundsTest::cutTowardsZero, KindsBoundsTest::partnersInOrder,
                KindsBoundsTest::trustHeldAbove, KindsBoundsTest::trustHeldBelow,
                KindsBoundsTest::countingForNothing,
                KindsBoundsTest::joinAsks, KindsBoundsTest::tossAsksJoined,
                KindsBoundsTest::tossAsksTrust, KindsBoundsTest::tossAsksMoreWhereItTrembles,
                KindsBoundsTest::scratch, KindsBoundsTest::near, KindsBoundsTest::middle,
                KindsBoundsTest::far, KindsBoundsTest::restAsks, KindsBoundsTest::goAsksNothing,
                KindsBoundsTest::payAsksJoined, KindsBoundsTest::payAsksCoins,
                KindsBoundsTest::payBringsTrust, KindsBoundsTest::buyAsks);
    }

    private static void counts(String what, boolean due, KnifeLedger x, int entry) {
        check.is(what + ": entry(" + entry + ", 4)", due ? 1 : 0, x.entry(entry, 4));
    }

    /** A ledger with so many coins (10, 22, 34 ..) and one partner, who has joined last. */
    private static KnifeLedger withCoins(int coins, int trust) {
        KnifeLedger x = new KnifeLedger();
        x.join(100);
        for (int there = 10; there < coins; there += 12) {
            x.toss(0, 1);
        }
        x.join(trust);
        check.is("coins to begin with", coins, x.count(3));
        return x;
    }

    private static void cutTowardsZero() {
        check.sentence("Terms", "All numbers are whole, and / is cut towards 0.");
        KnifeLedger x = new KnifeLedger();
        x.set(0, 1, 0);
        x.join(50);
        x.toss(0, 5);
        check.is("half of a light of 1", 15, x.count(3));
        x.set(0, 9, 0);
        check.is("half of a light of 9", 19, x.count(3));
        x.pay(0, 2);
        check.is("trust by 2 coins", 51, x.trust(0, 3));
        x.pay(0, 5);
        check.is("trust by 5 coins more", 52, x.trust(0, 4));
    }

    private static void partnersInOrder() {
        check.sentence("Terms", "There are 6, 0 to 5: the one who joins first is 0, and so on.");
        KnifeLedger x = new KnifeLedger();
        for (int partner = 0; partner < 6; partner++) {
            x.join(30 + partner);
        }
        for (int partner = 0; partner < 6; partner++) {
            check.is("trust of " + partner, 30 + partner, x.trust(partner, 6));
            check.is("trust of " + partner + " a join before", -1, x.trust(partner, partner));
        }
        x.strike(0);
        check.is("the second to join is 0 without the first", 31, x.trust(0, 6));
        check.is("the last is 4 then", 35, x.trust(4, 6));
        check.is("nobody is 5 then", -1, x.trust(5, 6));
    }

    private static void trustHeldAbove() {
        check.sentence("Terms", "Each who has joined has trust, held at 0 to 100.");
        int[] trusts = {99, 100, 97, 98, 94, 95, 99, 100};
        String[] by = {"a middle toss", "a middle toss", "a far toss", "a far toss", "a rest",
            "a rest", "a pay", "a pay"};
        for (int i = 0; i < trusts.length; i++) {
            KnifeLedger x = new KnifeLedger();
            x.join(trusts[i]);
            switch (i / 2) {
                case 0 -> x.toss(0, 5);
                case 1 -> x.toss(0, 15);
                case 2 -> x.rest(0);
                default -> x.pay(0, 3);
            }
            check.is("trust " + trusts[i] + " behind " + by[i], 100, x.trust(0, 2));
            x.rest(0);
            check.is("trust 100 behind a rest", 100, x.trust(0, 3));
            x.toss(0, 1);
            check.is("held each time, not at the end: 4 less", 96, x.trust(0, 4));
        }
    }

    private static void trustHeldBelow() {
        check.sentence("Terms", "Each who has joined has trust, held at 0 to 100.");
        int[] trusts = {20, 59, 60, 61};
        int[] without = {0, 0, 0, 1};
        for (int i = 0; i < trusts.length; i++) {
            KnifeLedger x = new KnifeLedger();
            x.join(trusts[i]);
            x.toss(0, 0);
            check.is("trust " + trusts[i] + " behind a scratch", without[i], x.trust(0, 2));
            x.rest(0);
            check.is("held each time, not at the end: 6 more", without[i] + 6, x.trust(0, 3));
        }
        int[] fewer = {20, 29, 30, 31};
        int[] with = {0, 0, 0, 1};
        for (int i = 0; i < fewer.length; i++) {
            KnifeLedger x = new KnifeLedger();
            x.buy(1);
            x.join(fewer[i]);
            x.toss(0, 0);
            check.is("trust " + fewer[i] + " behind a scratch with a plaster", with[i], x.trust(0, 3));
            x.rest(0);
            check.is("held each time with a plaster: 6 more", with[i] + 6, x.trust(0, 4));
        }
    }

    private static void countingForNothing() {
        check.sentence("Terms", "An entry counts for nothing, if what it asks does not hold then.");
        KnifeLedger x = new KnifeLedger();
        x.set(0, 9, 0);
        x.toss(0, 1);
        x.rest(0);
        x.pay(0, 1);
        x.buy(6);
        x.join(19);
        x.toss(0, 0);
        x.toss(0, 20);
        x.pay(0, 11);
        x.toss(1, 5);
        for (int entry = 0; entry < 9; entry++) {
            counts("what it asks does not hold", entry == 4, x, entry);
            check.is("coins behind " + entry, 10, x.behind(entry + 1, 0));
            check.is("plasters behind " + entry, 0, x.behind(entry + 1, 1));
            check.is("trust behind " + entry, entry < 4 ? 0 : 19, x.behind(entry + 1, 4));
        }
        x.shift(4, 0);
        counts("the toss asks 20 still", false, x, 1);
        counts("the rest behind the join", true, x, 2);
        counts("the pay behind the join", true, x, 3);
        counts("the toss behind the rest", true, x, 5);
    }

    private static void joinAsks() {
        check.sentence("Terms", "0 join (trust): asks that fewer than 6 have joined");
        KnifeLedger x = new KnifeLedger();
        for (int join = 0; join < 8; join++) {
            x.join(join);
            counts("join " + join, join < 6, x, join);
        }
        check.is("joined", 6, x.behind(8, 3));
        check.is("trust of all", 15, x.behind(8, 4));
        check.is("trust of the last", 5, x.trust(5, 8));
        x.strike(2);
        counts("the seventh, without the third", true, x, 6);
        counts("the eighth, without the third", false, x, 7);
        check.is("trust of the last then", 6, x.trust(5, 8));
    }

    private static void tossAsksJoined() {
        check.sentence("Terms", "1 toss (partner, thumbs): asks that the partner has joined");
        for (int partner = 0; partner < 6; partner++) {
            KnifeLedger x = new KnifeLedger();
            for (int join = 0; join < partner; join++) {
                x.join(100);
            }
            x.toss(partner, 5);
            x.join(100);
            x.toss(partner, 5);
            counts("before " + partner + " has joined", false, x, partner);
            counts("behind that", true, x, partner + 2);
            check.is("coins of one toss", 15, x.count(3));
        }
    }

    private static void tossAsksTrust() {
        check.sentence("Terms", "and has a trust of at least 20");
        KnifeLedger x = new KnifeLedger();
        x.join(20);
        x.join(19);
        x.join(0);
        x.toss(0, 1);
        x.toss(1, 1);
        x.toss(2, 1);
        x.toss(0, 1);
        x.rest(1);
        x.toss(1, 1);
        counts("20", true, x, 3);
        counts("19", false, x, 4);
        counts("0", false, x, 5);
        counts("16", false, x, 6);
        counts("25", true, x, 8);
        check.is("coins of two", 34, x.count(3));
    }

    private static void tossAsksMoreWhereItTrembles() {
        check.sentence("Terms", "and as much more as the stage trembles.");
        for (int tremble = 0; tremble < 10; tremble++) {
            KnifeLedger x = new KnifeLedger();
            x.set(0, 0, 9 - tremble);
            x.set(3, 9, tremble);
            x.join(20 + tremble);
            x.join(19 + tremble);
            x.go(3);
            x.toss(0, 10);
            x.toss(1, 10);
            counts("just enough for " + tremble, true, x, 3);
            counts("one less than enough for " + tremble, false, x, 4);
            x.strike(2);
            counts("on stage 0, beside " + tremble, 20 + tremble >= 29 - tremble, x, 3);
        }
    }

    private static void scratch() {
        check.sentence("Terms", "0: a scratch. With a plaster, this is used up, and the trust is 30"
                + " less; without one it is 60 less.");
        KnifeLedger x = new KnifeLedger();
        x.set(0, 9, 0);
        x.buy(2);
        for (int partner = 0; partner < 4; partner++) {
            x.join(100 - partner);
        }
        x.join(19);
        x.toss(4, 0);
        check.is("what counts for nothing uses none up", 2, x.behind(7, 1));
        for (int partner = 0; partner < 4; partner++) {
            x.toss(partner, 0);
        }
        check.is("one of two is used up", 1, x.behind(8, 1));
        check.is("30 less", 70, x.trust(0, 8));
        check.is("the last is used up", 0, x.behind(9, 1));
        check.is("30 less by the last", 69, x.trust(1, 9));
        check.is("none is used up", 0, x.behind(10, 1));
        check.is("60 less", 38, x.trust(2, 10));
        check.is("none is used up still", 0, x.behind(11, 1));
        check.is("60 less again", 37, x.trust(3, 11));
        check.is("no coins come in", 6, x.count(3));
        counts("it counts", true, x, 10);
    }

    /** The coins that come in and the trust behind, on stages of each light. */
    private static void isToss(int thumbs, int[] coinsByLight, int more) {
        for (int light = 0; light < 10; light++) {
            KnifeLedger x = new KnifeLedger();
            x.set(2, light, 0);
            x.set(0, 9 - light, 0);
            x.join(50);
            x.join(60);
            x.go(2);
            x.toss(1, thumbs);
            String what = thumbs + " thumbs, light " + light;
            check.is(what + ": coins", 10 + coinsByLight[light], x.count(3));
            check.is(what + ": trust", 60 + more, x.trust(1, 4));
            check.is(what + ": trust of the other", 50, x.trust(0, 4));
        }
    }

    private static void near() {
        check.sentence("Terms", "1 to 3: 12 coins and the light of the stage come in; the trust is 4"
                + " less.");
        for (int thumbs = 1; thumbs <= 3; thumbs++) {
            isToss(thumbs, new int[] {12, 13, 14, 15, 16, 17, 18, 19, 20, 21}, -4);
        }
    }

    private static void middle() {
        check.sentence("Terms", "4 to 9: 5 coins and half (cut) of the light come in; the trust is 1"
                + " more.");
        for (int thumbs = 4; thumbs <= 9; thumbs++) {
            isToss(thumbs, new int[] {5, 5, 6, 6, 7, 7, 8, 8, 9, 9}, 1);
        }
    }

    private static void far() {
        check.sentence("Terms", "10 and more: 1 coin comes in; the trust is 3 more.");
        for (int thumbs = 10; thumbs <= 20; thumbs++) {
            isToss(thumbs, new int[] {1, 1, 1, 1, 1, 1, 1, 1, 1, 1}, 3);
        }
    }

    private static void restAsks() {
        check.sentence("Terms", "2 rest (partner): asks that the partner has joined; the trust is 6"
                + " more.");
        for (int partner = 0; partner < 6; partner++) {
            KnifeLedger x = new KnifeLedger();
            for (int join = 0; join < partner; join++) {
                x.join(1);
            }
            x.rest(partner);
            x.join(0);
            x.rest(partner);
            counts("before " + partner + " has joined", false, x, partner);
            counts("behind that, by a trust of 0", true, x, partner + 2);
            check.is("trust of " + partner, 6, x.trust(partner, partner + 3));
            check.is("trust of all", partner + 6, x.behind(partner + 3, 4));
        }
    }

    private static void goAsksNothing() {
        check.sentence("Terms", "3 go (stage): asks nothing; the stage is this.");
        KnifeLedger x = new KnifeLedger();
        int[] stages = {0, 3, 3, 1, 2, 0};
        for (int entry = 0; entry < 6; entry++) {
            x.go(stages[entry]);
            counts("go(" + stages[entry] + ")", true, x, entry);
            check.is("the stage behind " + entry, stages[entry], x.behind(entry + 1, 2));
        }
        x.strike(5);
        check.is("the stage of the one before, without the last", 2, x.behind(6, 2));
    }

    private static void payAsksJoined() {
        check.sentence("Terms", "4 pay (partner, coins): asks that the partner has joined");
        for (int partner = 0; partner < 6; partner++) {
            KnifeLedger x = new KnifeLedger();
            for (int join = 0; join < partner; join++) {
                x.join(1);
            }
            x.pay(partner, 3);
            x.join(0);
            x.pay(partner, 3);
            counts("before " + partner + " has joined", false, x, partner);
            counts("behind that, by a trust of 0", true, x, partner + 2);
            check.is("coins", 7, x.count(3));
            check.is("trust of " + partner, 1, x.trust(partner, partner + 3));
        }
    }

    private static void payAsksCoins() {
        check.sentence("Terms", "and that there are so many coins; they go");
        int[] coins = {9, 10, 11, 99};
        int[] left = {1, 0, 10, 10};
        for (int i = 0; i < coins.length; i++) {
            KnifeLedger x = withCoins(10, 50);
            x.pay(1, coins[i]);
            counts(coins[i] + " of 10", coins[i] <= 10, x, 2);
            check.is("coins behind " + coins[i] + " of 10", left[i], x.count(3));
        }
        KnifeLedger x = withCoins(10, 50);
        x.pay(1, 10);
        x.pay(1, 1);
        counts("1 of none", false, x, 3);
        KnifeLedger y = withCoins(106, 50);
        y.pay(1, 99);
        counts("99 of 106", true, y, 10);
        check.is("coins behind 99 of 106", 7, y.count(3));
        y.pay(1, 8);
        counts("8 of 7", false, y, 11);
        y.pay(1, 7);
        counts("7 of 7", true, y, 12);
    }

    private static void payBringsTrust() {
        check.sentence("Terms", "and the trust is coins / 3 more.");
        int[] coins = {1, 2, 3, 5, 6, 97, 98, 99};
        int[] more = {0, 0, 1, 1, 2, 32, 32, 33};
        for (int i = 0; i < coins.length; i++) {
            KnifeLedger x = withCoins(106, 50);
            x.pay(1, coins[i]);
            check.is("trust by " + coins[i], 50 + more[i], x.trust(1, 11));
            check.is("trust of the other", 68, x.trust(0, 11));
        }
    }

    private static void buyAsks() {
        check.sentence("Terms", "5 buy (plasters): asks for 2 coins for each; they go, and the plasters"
                + " come.");
        int[] coins = {10, 10, 10, 34, 34, 46, 46};
        int[] plasters = {1, 5, 6, 17, 18, 20, 19};
        for (int i = 0; i < coins.length; i++) {
            KnifeLedger x = withCoins(coins[i], 50);
            int entry = x.buy(plasters[i]);
            boolean enough = 2 * plasters[i] <= coins[i];
            String what = plasters[i] + " for " + coins[i] + " coins";
            counts(what, enough, x, entry);
            check.is(what + ": coins", enough ? coins[i] - 2 * plasters[i] : coins[i], x.count(3));
            check.is(what + ": plasters", enough ? plasters[i] : 0, x.behind(entry + 1, 1));
        }
        KnifeLedger x = withCoins(10, 50);
        x.pay(1, 1);
        x.buy(5);
        counts("5 for 9 coins", false, x, 3);
        x.buy(4);
        counts("4 for 9 coins", true, x, 4);
        x.buy(1);
        counts("1 for 1 coin", false, x, 5);
        KnifeLedger y = withCoins(10, 50);
        y.pay(1, 10);
        y.buy(1);
        counts("1 for none", false, y, 3);
    }
}
