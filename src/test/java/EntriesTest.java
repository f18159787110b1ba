/** Promises 3 to 8: join, toss, rest, go, pay and buy. */
public final class EntriesTest {
    private static final Check check = new Check();

    public static void main(String[] args) {
        check.runs(
                EntriesTest::join, EntriesTest::tossNear, EntriesTest::tossScratch,
                EntriesTest::rest, EntriesTest::go, EntriesTest::pay, EntriesTest::buy);
    }

    private static void join() {
        KnifeLedger x = new KnifeLedger();
        check.is("join(0)", 0, x.join(0));
        check.is("join(100)", 1, x.join(100));
        check.is("join(37)", 2, x.join(37));
        check.is("trust of 0", 0, x.trust(0, 3));
        check.is("trust of 1", 100, x.trust(1, 3));
        check.is("trust of 2", 37, x.trust(2, 3));
        check.is("trust of 3", -1, x.trust(3, 3));
        check.is("kind", 0, x.entry(2, 0));
        check.is("its trust", 37, x.entry(2, 1));
        check.is("without more", 0, x.entry(2, 2));
        check.is("coins", 10, x.count(3));
    }

    private static void tossNear() {
        KnifeLedger x = new KnifeLedger();
        x.set(0, 7, 0);
        x.join(50);
        check.is("toss(0, 2)", 1, x.toss(0, 2));
        check.is("coins behind a near one", 29, x.count(3));
        check.is("trust behind a near one", 46, x.trust(0, 2));
        check.is("toss(0, 5)", 2, x.toss(0, 5));
        check.is("coins behind a middle one", 37, x.count(3));
        check.is("trust behind a middle one", 47, x.trust(0, 3));
        check.is("toss(0, 15)", 3, x.toss(0, 15));
        check.is("coins behind a far one", 38, x.count(3));
        check.is("trust behind a far one", 50, x.trust(0, 4));
        check.is("kind", 1, x.entry(3, 0));
        check.is("partner", 0, x.entry(3, 1));
        check.is("thumbs", 15, x.entry(3, 2));
    }

    private static void tossScratch() {
        KnifeLedger x = new KnifeLedger();
        x.set(0, 9, 0);
        x.join(100);
        x.join(90);
        x.buy(1);
        x.toss(0, 0);
        check.is("trust by a scratch with a plaster", 70, x.trust(0, 4));
        check.is("the plaster is used up", 0, x.behind(4, 1));
        check.is("a scratch brings no coins", 8, x.count(3));
        x.toss(0, 0);
        check.is("trust by a scratch without", 10, x.trust(0, 5));
        check.is("no plasters", 0, x.behind(5, 1));
        check.is("a scratch without brings no coins", 8, x.count(3));
        check.is("the other's trust", 90, x.trust(1, 5));
        check.is("a scratch counts", 1, x.entry(4, 4));
    }

    private static void rest() {
        KnifeLedger x = new KnifeLedger();
        check.is("rest(0)", 0, x.rest(0));
        x.join(30);
        x.join(40);
        check.is("rest(1)", 3, x.rest(1));
        check.is("rest(5)", 4, x.rest(5));
        check.is("before the join", 0, x.entry(0, 4));
        check.is("of one who has joined", 1, x.entry(3, 4));
        check.is("of one who has not", 0, x.entry(4, 4));
        check.is("trust", 46, x.trust(1, 5));
        check.is("trust of the other", 30, x.trust(0, 5));
        check.is("coins", 10, x.count(3));
        check.is("kind", 2, x.entry(3, 0));
        check.is("partner", 1, x.entry(3, 1));
        check.is("without more", 0, x.entry(3, 2));
    }

    private static void go() {
        KnifeLedger x = new KnifeLedger();
        x.set(3, 6, 0);
        x.join(50);
        check.is("go(3)", 1, x.go(3));
        check.is("the stage", 3, x.behind(2, 2));
        check.is("the stage before", 0, x.behind(1, 2));
        x.toss(0, 1);
        check.is("coins with this light", 28, x.count(3));
        check.is("go(3) again", 3, x.go(3));
        check.is("go(0)", 4, x.go(0));
        check.is("it counts always", 1, x.entry(3, 4));
        x.toss(0, 1);
        check.is("coins with the light of stage 0", 40, x.count(3));
        check.is("kind", 3, x.entry(1, 0));
        check.is("its stage", 3, x.entry(1, 1));
        check.is("without more", 0, x.entry(1, 2));
    }

    private static void pay() {
        KnifeLedger x = new KnifeLedger();
        x.join(50);
        check.is("pay(0, 11)", 1, x.pay(0, 11));
        check.is("11 of 10 coins", 0, x.entry(1, 4));
        check.is("coins stay", 10, x.count(3));
        check.is("pay(0, 2)", 2, x.pay(0, 2));
        check.is("2 / 3 is 0", 50, x.trust(0, 3));
        check.is("2 coins go", 8, x.count(3));
        check.is("pay(0, 8)", 3, x.pay(0, 8));
        check.is("8 of 8 coins", 1, x.entry(3, 4));
        check.is("8 / 3 is 2", 52, x.trust(0, 4));
        check.is("no coins", 0, x.count(3));
        check.is("pay(0, 1)", 4, x.pay(0, 1));
        check.is("1 of 0 coins", 0, x.entry(4, 4));
        check.is("kind", 4, x.entry(1, 0));
        check.is("partner", 0, x.entry(1, 1));
        check.is("coins", 11, x.entry(1, 2));

        KnifeLedger y = new KnifeLedger();
        y.pay(0, 3);
        y.join(50);
        y.pay(1, 3);
        check.is("before the join", 0, y.entry(0, 4));
        check.is("of one who has not joined", 0, y.entry(2, 4));
        check.is("coins stay", 10, y.count(3));
    }

    private static void buy() {
        KnifeLedger x = new KnifeLedger();
        check.is("buy(6)", 0, x.buy(6));
        check.is("12 of 10 coins", 0, x.entry(0, 4));
        check.is("no plasters", 0, x.behind(1, 1));
        check.is("buy(2)", 1, x.buy(2));
        check.is("coins", 6, x.count(3));
        check.is("plasters", 2, x.behind(2, 1));
        check.is("buy(3)", 2, x.buy(3));
        check.is("6 of 6 coins", 1, x.entry(2, 4));
        check.is("coins then", 0, x.count(3));
        check.is("plasters then", 5, x.behind(3, 1));
        check.is("kind", 5, x.entry(1, 0));
        check.is("its plasters", 2, x.entry(1, 1));
        check.is("without more", 0, x.entry(1, 2));
    }
}
