/** Promises 40 to 45: what is seen, and what is known by it in two times. */
public final class SeenTest {
    // The last cat is b; t goes at wants + 0 .. 9 hours more by and by, u is another's, v is out, w is in probate.
    private static final String TOLD = "cat a wants 3;cat b wants 50;room p of a;room q of b;room r of b;room z;"
        + "tenant t hours 40 in q;tenant u hours 8 in p;tenant v hours 9;tenant w hours 1 in z;tenant x hours 60 in r;"
        + "likes hours - wants - stayed * 2;";

    public static void main(String[] args) {
        promises40And41();
        promise42();
        promises43And44();
        twoTimes();
        promise45();
        asTold();
        Check.end("SeenTest");
    }

    private static void promises40And41() {
        CatLeases x = Check.told(TOLD);
        Check.due("seen(-1, 0)", -1, x.seen(-1, 0, true));
        Check.due("seen(10, 0)", -1, x.seen(10, 0, true));
        Check.due("seen(0, 5)", -1, x.seen(0, 5, true));
        Check.due("seen(0, -1)", -1, x.seen(0, -1, true));
        for (int i = 0; i < 30; i++) Check.due("seen " + i, i, x.seen(i % 10, i % 5, i % 2 == 0));
        Check.due("31", -1, x.seen(0, 0, true));
        Check.due("about(9)", 30, x.about(9));
        Check.due("untell(30)", false, x.untell(30));
        Check.due("untell(-1)", false, x.untell(-1));
        Check.due("untell(29)", true, x.untell(29));
        Check.due("untell(29)", false, x.untell(29));
        Check.due("what is untold is still seen", 30, x.about(9));
        Check.due("and no other comes", -1, x.seen(0, 0, true));
        CatLeases y = Check.told("room p;tenant t hours 1 in p;");
        Check.due("without cats", -1, y.seen(0, 0, true));
        Check.due("untell(0)", false, y.untell(0));
    }

    private static void promise42() {
        CatLeases x = new CatLeases();
        Check.due("later(0)", 0, x.later(0));
        Check.due("later(-1)", -1, x.later(-1));
        Check.due("later(1001)", -1, x.later(1001));
        for (int i = 1; i < 100; i++) Check.due("later(1000)", 1000 * i, x.later(1000));
        Check.due("later(999)", 99999, x.later(999));
        Check.due("later(2)", -1, x.later(2));
        Check.due("later(1)", 100000, x.later(1));
        Check.due("later(1)", -1, x.later(1));
        Check.due("later(0)", 100000, x.later(0));
        Check.due("about(10)", 100000, x.about(10));
    }

    private static void sure(String name, CatLeases x, int k, int fits, int least, int greatest) {
        Check.due(name + ": fits", fits, x.fits(k));
        Check.due(name + ": least", least, x.sure(0, k));
        Check.due(name + ": greatest", greatest, x.sure(1, k));
        Check.due(name + ": sure(2)", -1, x.sure(2, k));
        Check.due(name + ": sure(-1)", -1, x.sure(-1, k));
    }

    private static void promises43And44() {
        sure("without cats", new CatLeases(), 0, 0, -1, -1);
        CatLeases x = Check.told(TOLD);
        sure("nothing is seen", x, 0, 100, 0, 99);
        x.seen(0, 0, true);
        sure("he is in it at first", x, 0, 100, 0, 99);
        x.seen(1, 0, true);
        sure("behind 1: 40 - wants above 0", x, 0, 40, 0, 39);
        x.seen(3, 0, false);
        sure("behind 3: 36 - wants not above 0", x, 0, 4, 36, 39);
        x.seen(2, 4, true);
        sure("of another one", x, 0, 4, 36, 39);
        x.seen(9, 3, true);
        sure("in probate he stays", x, 0, 4, 36, 39);
        // u: 5 - 2 stayed, so he is out behind 4, by whatever b wants.
        x.seen(3, 1, true);
        x.seen(4, 1, false);
        sure("not the last cat's", x, 0, 4, 36, 39);
        int wrong = x.seen(9, 2, true);
        sure("out he stays", x, 0, 0, -1, -1);
        x.untell(wrong);
        sure("untold at once", x, 0, 4, 36, 39);
    }

    private static void twoTimes() {
        CatLeases x = Check.told(TOLD);
        x.later(10);
        x.seen(1, 0, true);
        x.later(10);
        x.seen(3, 0, false);
        x.later(10);
        x.untell(0);
        sure("at -5", x, -5, 100, 0, 99);
        sure("at 9", x, 9, 100, 0, 99);
        sure("at 10", x, 10, 40, 0, 39);
        sure("at 19", x, 19, 40, 0, 39);
        sure("at 20", x, 20, 4, 36, 39);
        sure("at 29", x, 29, 4, 36, 39);
        sure("at 30", x, 30, 64, 36, 99);
        sure("at max", x, Integer.MAX_VALUE, 64, 36, 99);
        sure("at min", x, Integer.MIN_VALUE, 100, 0, 99);
        Check.put(x, TOLD);
        x.mews();
        sure("told anew", x, 30, 100, 0, 99);
        Check.due("the time stays", 30, x.about(10));
    }

    private static void ask(String name, CatLeases x, int quarters, int k, int tenant, int left) {
        Check.due(name, tenant, x.ask(quarters, 0, k));
        Check.due(name + ": left", left, x.ask(quarters, 1, k));
    }

    private static void promise45() {
        CatLeases x = Check.told(TOLD);
        ask("all are alike at 0", x, 0, 0, 0, 100);
        ask("behind 1: t 40, x 60", x, 1, 0, 0, 60);
        ask("behind 9: t 24, x 44", x, 9, 0, 4, 56);
        Check.due("ask(10)", -1, x.ask(10, 0, 0));
        Check.due("ask(-1)", -1, x.ask(-1, 0, 0));
        Check.due("ask(1, 2)", -1, x.ask(1, 2, 0));
        Check.due("ask(1, -1)", -1, x.ask(1, -1, 0));
        x.later(1);
        x.seen(1, 0, true);
        ask("t is in it by 0 .. 39, x is", x, 1, 1, 0, 40);
        ask("behind 9: t 24 of 40", x, 9, 1, 0, 24);
        ask("as known at 0", x, 9, 0, 4, 56);
        x.seen(1, 0, false);
        ask("none fits", x, 1, 1, -1, -1);
        ask("without tenants", Check.told("cat a wants 1;"), 1, 0, -1, -1);
        ask("without cats", Check.told("tenant t hours 1;"), 1, 0, -1, -1);
    }

    private static void asTold() {
        CatLeases x = Check.told(TOLD + "dies 100;");
        x.seen(1, 0, true);
        x.leave(0);
        x.spend(0, 99);
        x.quarter();
        x.claim(1, 0);
        sure("nothing done, nobody dies", x, 0, 40, 0, 39);
        Check.due("ask", 0, x.ask(9, 0, 0));
        // The last cat's likings by rooms and quarter, as they were at first.
        CatLeases y = Check.told("cat a wants 3;cat b wants 50;room q of b;room r of b;room z;tenant t hours 9 in q;likes hours * rooms - wants + quarter;");
        y.claim(2, 1);
        y.seen(1, 0, true);
        sure("rooms as told", y, 0, 18, 0, 17);
        y.seen(9, 0, true);
        sure("quarter goes on", y, 0, 18, 0, 17);
        CatLeases heirs = Check.told("cat a wants 3;cat b wants 50 heir a;room q of a;tenant t hours 9 in q;");
        heirs.seen(5, 0, false);
        sure("only another's", heirs, 0, 0, -1, -1);
        CatLeases one = Check.told("cat a wants 99;room q of a;tenant t hours 9 in q;");
        one.seen(5, 0, true);
        CatLeases least = Check.told("cat a wants 99;room q of a;tenant t hours 1 in q;");
        least.seen(1, 0, true);
        sure("0 alone", least, 0, 1, 0, 0);
        CatLeases most = Check.told("cat a wants 9;room q of a;tenant t hours 99 in q;");
        most.seen(1, 0, false);
        sure("99 alone", most, 0, 1, 99, 99);
        sure("the only cat is the last", one, 0, 9, 0, 8);
    }
}
