/** Promises 19 to 39: what is asked of what is now and of what lies ahead. */
public final class AskTest {
    private static final String HEIRS = "cat a wants 5;cat b wants 9 heir a;cat c wants 2 heir b;cat d wants 1;"
        + "room p of a;room q of b;room r of c;room s of d;room z;";

    public static void main(String[] args) {
        promise19();
        promise20();
        promises21And36();
        promises22And23();
        promise24();
        promises25And26();
        promises27And28();
        promise29();
        promise30();
        bidEdges();
        promise31();
        promise32();
        promises33And34();
        promise35();
        promise37();
        promise38();
        promise39();
        nothingIsDone();
        full();
        Check.end("AskTest");
    }

    private static void promise19() {
        CatLeases x = Check.told("cat a wants 0;room r of a;room s;tenant t hours 1 in r;tenant u hours 1 in s;likes 60 - quarter;dies 100;");
        Check.due("will(0, 0, 0)", 0, x.will(0, 0, 0));
        Check.due("will(0, 60, 0)", 0, x.will(0, 60, 0));
        Check.due("will(0, 61, 0)", -2, x.will(0, 61, 0));
        Check.due("will(0, -1, 0)", -2, x.will(0, -1, 0));
        Check.due("will(2, 1, 0)", -2, x.will(2, 1, 0));
        Check.due("will(-1, 1, 0)", -2, x.will(-1, 1, 0));
        Check.due("will(0, 1, 2)", -2, x.will(0, 1, 2));
        Check.due("will(0, 1, -1)", -2, x.will(0, 1, -1));
        CatLeases y = Check.told("cat a wants 0;room r of a;room s;tenant t hours 1 in r;tenant u hours 1 in s;likes 59 - quarter;dies 100;");
        Check.due("out behind 60", -1, y.will(0, 60, 0));
        Check.due("not yet behind 59", 0, y.will(0, 59, 0));
        Check.due("in probate once she is dead", 0, y.will(0, 60, 1));
        Check.due("in probate", 1, y.will(1, 60, 0));
        // c's draws: 8 -> 167, 950, 221: b and c die in the first quarter, and a throws him out in the second.
        CatLeases z = Check.told("cat a wants 99;cat b wants 0 heir a;cat c wants 0 heir b;room r of c;tenant t hours 9 in r;draw 8;dies 51;");
        Check.due("heirs", 0, z.will(0, 1, 1));
        Check.due("the heir's wants", -1, z.will(0, 2, 1));
        Check.due("no deaths", 0, z.will(0, 2, 0));
        z.quarter();
        z.quarter();
        Check.due("as foreseen", -1, z.tenant(0, 0));
    }

    private static void promise20() {
        String told = "cat a wants 0;room r of a;room s;tenant t hours 1 in r;tenant u hours 1;tenant v hours 1 in s;";
        CatLeases x = Check.told(told + "likes 98 - stayed;");
        Check.due("lasts 99", 99, x.lasts(0));
        Check.due("lasts while out", 0, x.lasts(1));
        Check.due("lasts in probate", -1, x.lasts(2));
        Check.due("lasts(3)", -1, x.lasts(3));
        Check.due("lasts(-1)", -1, x.lasts(-1));
        x.quarter();
        Check.due("one less", 98, x.lasts(0));
        Check.due("by quarter and stayed", 99, Check.told(told + "likes 196 - stayed - quarter;").lasts(0));
        Check.due("beyond 99", -1, Check.told(told + "likes 99 - stayed;").lasts(0));
        Check.due("at once", 1, Check.told(told + "likes 0;").lasts(0));
        Check.due("below 0", 1, Check.told(told + "likes 0 - 1;").lasts(0));
        Check.due("nobody dies", 2, Check.told(told + "likes 1 - stayed;dies 100;").lasts(0));
    }

    private static void promises21And36() {
        CatLeases x = Check.told(HEIRS + "tenant t hours 6 in p;tenant u hours 9 in q;tenant v hours 0 in z;tenant w hours 0;tenant y hours 1 in r;");
        Check.due("shaky()", 18, x.shaky());
        Check.due("law(0)", 0, x.law(0));
        Check.due("law(1)", 1, x.law(1));
        Check.due("law(5)", 1, x.law(5));
        Check.due("law(6)", 2, x.law(6));
        Check.due("law(9)", 3, x.law(9));
        Check.due("law(99)", 3, x.law(99));
        Check.due("law(100)", -1, x.law(100));
        Check.due("law(-1)", -1, x.law(-1));
        Check.due("quarter()", 18, x.quarter());
        Check.due("shaky()", 0, x.shaky());
    }

    private static void let(String name, CatLeases x, int count, int liking, int... where) {
        Check.due(name + ": pleasure()", liking, x.pleasure());
        Check.due(name + ": letting()", count, x.letting());
        Check.due(name + ": about(13)", where.length, x.about(13));
        for (int i = 0; i < where.length; i++) Check.due(name + ": lies(" + i + ")", where[i], x.lies(i));
        Check.due(name + ": lies behind", -2, x.lies(where.length));
        Check.due(name + ": lies(-1)", -2, x.lies(-1));
    }

    private static void promises22And23() {
        let("none", new CatLeases(), 0, 0);
        // As many as can be comes ahead of the most liking: t alone in p would be liked by 90.
        let("many", Check.told("cat a wants 9;cat b wants 98;room p of a;room q of b;tenant t hours 99;tenant u hours 10;"), 2, 2, 1, 0);
        let("the most", Check.told("cat a wants 10;cat b wants 20;room p of b;room q of a;tenant t hours 30;tenant u hours 25;likes (hours - wants) * (hours - wants);"),
            2, 425, 1, 0);
        let("like ones", Check.told("cat a wants 1;room p of a;room q of a;room r of a;tenant t hours 5;tenant u hours 5;"), 2, 8, 0, 1);
        let("none behind all", Check.told("cat a wants 1;room p of a;tenant t hours 5;tenant u hours 5;"), 1, 4, 0, -1);
        let("the more liked", Check.told("cat a wants 1;room p of a;tenant t hours 5;tenant u hours 6;"), 1, 5, -1, 0);
        let("not in probate", Check.told("cat a wants 1;room p;room q of a;tenant t hours 5 in p;tenant u hours 1;"), 1, 4, 1, -1);
        let("9999 at most", Check.told("cat a wants 0;room p of a;room q of a;tenant t hours 5;tenant u hours 2;likes hours * 9999;"), 2, 19998, 0, 1);
        let("9999 at most, like ones", Check.told("cat a wants 0;room p of a;tenant t hours 2;tenant u hours 5;likes hours * 9999;"), 1, 9999, 0, -1);
        CatLeases x = Check.told("cat a wants 0;room p of a;room q of a;tenant t hours 5 in q;likes stayed + 1;");
        let("at first", x, 1, 1, 0);
        x.quarter();
        let("stayed counts as now", x, 1, 2, 1);
        StringBuilder full = new StringBuilder("cat a wants 0;cat b wants 3;");
        for (int r = 0; r < 8; r++) full.append("room r").append((char) ('a' + r)).append(r % 2 == 0 ? " of a;" : " of b;");
        for (int t = 0; t < 7; t++) full.append("tenant t").append((char) ('a' + t)).append(" hours ").append(9 - t).append(";");
        // Each of the four at a gives 0 of his hours away, each at b 3; whoever has no more than 3 must go to a.
        let("seven", Check.told(full.toString()), 7, 9 + 8 + 7 + 6 + 5 + 4 + 3 - 9, 0, 1, 2, 3, 4, 5, 6);
    }

    private static void promise24() {
        // Each cat likes just what the other one has.
        String told = "cat a wants 1;cat b wants 2;room p of a;room q of b;room r of b;room z;"
            + "tenant t hours 2 in p;tenant u hours 1 in q;tenant v hours 1 in r;tenant w hours 1 in z;";
        CatLeases x = Check.told(told + "likes hours = wants;");
        Check.due("swaps(0)", 2, x.swaps(0));
        Check.due("swaps(1)", 0, x.swaps(1));
        Check.due("swaps(2)", 1, x.swaps(2));
        Check.due("swaps(3)", -1, x.swaps(3));
        Check.due("swaps(-1)", -1, x.swaps(-1));
        x.leave(1);
        Check.due("swaps(0)", 1, x.swaps(0));
        Check.due("swaps(2)", 2, x.swaps(2));
        x.exchange(0, 2);
        Check.due("swaps(0)", 0, x.swaps(0));
        Check.due("swaps(1)", -1, x.swaps(1));
        Check.due("swaps(2)", -1, x.swaps(2));
        CatLeases y = Check.told("cat a wants 1;room p of a;room q of a;tenant t hours 2 in p;tenant u hours 1 in q;likes 9 - stayed;");
        Check.due("like ones are no swap", 0, y.swaps(0));
        y.quarter();
        Check.due("stayed 0 after it", 1, y.swaps(0));
        String one = "cat a wants 1;cat b wants 2;room p of a;room q of b;room z;";
        Check.due("the first one alone gains", 0, Check.told(one + "tenant t hours 2 in p;tenant u hours 2 in q;likes hours = wants;").swaps(0));
        Check.due("the other one alone gains", 0, Check.told(one + "tenant t hours 1 in p;tenant u hours 1 in q;likes hours = wants;").swaps(0));
        Check.due("the first one is liked alike", 0, Check.told(one + "tenant t hours 3 in p;tenant u hours 1 in q;likes hours = wants;").swaps(0));
        Check.due("the other one is liked alike", 0, Check.told(one + "tenant t hours 2 in p;tenant u hours 3 in q;likes hours = wants;").swaps(0));
        Check.due("one is in probate", 0, Check.told(one + "tenant t hours 2 in p;tenant u hours 1 in z;likes hours = wants;").swaps(0));
        CatLeases big = Check.told("cat a wants 1;cat b wants 2;room p of a;room q of b;tenant t hours 1 in p;tenant u hours 2 in q;"
            + "likes 9999 * 9999 - 9 * (hours = wants);");
        Check.due("swaps are not cut to 9999", 1, big.swaps(0));
    }

    private static void promises25And26() {
        String told = "cat a wants 7;room p of a;room z;tenant t hours 9 warm 1 fidgets 4 in p;tenant u hours 9;tenant v hours 9 in z;";
        CatLeases x = Check.told(told);
        Check.due("pay(0)", 9, x.pay(0));
        Check.due("borne(0)", 4, x.borne(0));
        for (int t : new int[] {1, 2, 3, -1}) {
            Check.due("pay(" + t + ")", -1, x.pay(t));
            Check.due("borne(" + t + ")", -1, x.borne(t));
        }
        CatLeases y = Check.told(told + "likes hours > 98 or hours = 3;");
        Check.due("the fewest", 3, y.pay(0));
        Check.due("borne(0) by none", -1, y.borne(0));
        Check.due("99", 99, Check.told(told + "likes hours > 98;").pay(0));
        Check.due("none is enough", -1, Check.told(told + "likes hours > 99;").pay(0));
        Check.due("0", 0, Check.told(told + "likes 1;").pay(0));
        Check.due("all are borne", 9, Check.told(told + "likes 1;").borne(0));
        Check.due("the most", 7, Check.told(told + "likes fidgets = 7 or fidgets < 2;").borne(0));
        Check.due("0 is borne", 0, Check.told(told + "likes fidgets < 1;").borne(0));
        CatLeases z = Check.told(told + "likes stayed * 10 + hours - 20;");
        z.spend(0, 21);
        z.quarter();
        Check.due("as long as he stayed", 11, z.pay(0));
    }

    private static void promises27And28() {
        CatLeases x = Check.told(HEIRS);
        Check.due("keeper(2, 0)", 2, x.keeper(2, 0));
        Check.due("keeper(2, 4)", 1, x.keeper(2, 4));
        Check.due("keeper(2, 2)", 2, x.keeper(2, 2));
        Check.due("keeper(2, 6)", 0, x.keeper(2, 6));
        Check.due("keeper(2, 7)", -1, x.keeper(2, 7));
        Check.due("keeper(3, 8)", -1, x.keeper(3, 8));
        Check.due("keeper(4, 0)", -1, x.keeper(4, 0));
        Check.due("keeper(5, 0)", -2, x.keeper(5, 0));
        Check.due("keeper(-1, 0)", -2, x.keeper(-1, 0));
        Check.due("keeper(0, 16)", -2, x.keeper(0, 16));
        Check.due("keeper(0, -1)", -2, x.keeper(0, -1));
        int[] want = {1, 2, 1, 3, 1, 2, 1, 4, 2};
        for (int set = 0; set < want.length; set++) Check.due("probate(" + set + ")", want[set], x.probate(set));
        Check.due("probate(15)", 5, x.probate(15));
        Check.due("probate(16)", -1, x.probate(16));
        Check.due("probate(-1)", -1, x.probate(-1));
        Check.due("probate(min)", -1, x.probate(Integer.MIN_VALUE));
        // 8 -> 167, 950, 221, 348: by 51 b, c and d die; a dead one may die again, and is no keeper.
        CatLeases y = Check.told(HEIRS + "draw 8;dies 51;");
        y.quarter();
        Check.due("live", 1, y.about(3));
        Check.due("probate(0)", 2, y.probate(0));
        Check.due("probate(6)", 2, y.probate(6));
        Check.due("probate(1)", 5, y.probate(1));
        Check.due("keeper(2, 4)", 0, y.keeper(2, 4));
        Check.due("keeper(2, 5)", -1, y.keeper(2, 5));
    }

    private static void promise29() {
        String told = "cat a wants 50;cat b wants 5 heir a;cat c wants 60;room p of a;room q of b;room r of b;room s of c;"
            + "tenant t hours 9 in q;tenant u hours 70 in r;tenant v hours 9 in s;tenant w hours 9 in p;";
        CatLeases x = Check.told(told);
        Check.due("now", 0, x.grief(1, 0));
        Check.due("behind 1: t is out by a", 1, x.grief(1, 1));
        Check.due("behind 20", 1, x.grief(1, 20));
        Check.due("c's would stay", -1, x.grief(2, 1));
        Check.due("a's would stay", -1, x.grief(0, 1));
        Check.due("grief(1, 21)", -1000, x.grief(1, 21));
        Check.due("grief(1, -1)", -1000, x.grief(1, -1));
        Check.due("grief(3, 1)", -1000, x.grief(3, 1));
        Check.due("grief(-1, 1)", -1000, x.grief(-1, 1));
        CatLeases y = Check.told(told + "dies 100;");
        Check.due("nobody else dies", 1, y.grief(1, 1));
        y.quarter();
        Check.due("of a dead one", -1000, y.grief(1, 1));
        CatLeases z = Check.told("cat a wants 0;cat b wants 0 heir a;room p of a;room q of b;tenant t hours 1 in p;likes 2 - rooms;");
        Check.due("rooms of the heir", 1, z.grief(1, 1));
    }

    private static void bid(String name, CatLeases x, int tenant, int other, int room, int... due) {
        Check.due(name, due[0], x.bid(tenant, other, room));
        Check.due(name + ": about(13)", due.length - 1, x.about(13));
        for (int i = 1; i < due.length; i++) Check.due(name + ": lies " + i, due[i], x.lies(i - 1));
    }

    private static void promise30() {
        String told = "cat a wants 5;room r of a;room s;tenant t hours 11;tenant u hours 4;tenant v hours 2;tenant w hours 9;tenant x hours 6;";
        CatLeases x = Check.told(told);
        bid("t has it whatever u makes", x, 0, 1, 0, 1, 0, 0);
        bid("the other one has it", x, 1, 0, 0, 1, 0, 0);
        bid("both outbid one another", x, 0, 3, 0, 0);
        bid("u needs 2 more, v can't", Check.told("cat a wants 20;room r of a;tenant u hours 19;tenant v hours 14;"), 0, 1, 0, 1, 2, 0);
        bid("the other one needs 2 more", Check.told("cat a wants 20;room r of a;tenant u hours 19;tenant v hours 14;"), 1, 0, 0, 1, 0, 2);
        bid("neither can", Check.told("cat a wants 50;room r of a;tenant u hours 19;tenant v hours 14;"), 0, 1, 0, 1, 0, 0);
        bid("of like ones the first", Check.told("cat a wants 9;room r of a;tenant u hours 9;tenant v hours 9;likes hours > 5;"), 1, 0, 0, 1, 0, 0);
        // Each is liked by one bid alone, and by no more than the other one: so the first one has it.
        String alike = "cat a wants 9;room r of a;tenant u hours 10;tenant v hours 20;likes hours = 12 or hours = 23;";
        bid("alike, the first one", Check.told(alike), 0, 1, 0, 1, 2, 0);
        bid("alike, turned round", Check.told(alike), 1, 0, 0, 1, 3, 0);
        bid("5 more are enough", Check.told("cat a wants 14;room r of a;tenant u hours 10;tenant v hours 2;"), 0, 1, 0, 1, 5, 0);
        bid("6 more were", Check.told("cat a wants 15;room r of a;tenant u hours 10;tenant v hours 2;"), 0, 1, 0, 1, 0, 0);
        bid("5 more of the other one are enough", Check.told("cat a wants 14;room r of a;tenant u hours 2;tenant v hours 10;"), 0, 1, 0, 1, 0, 5);
        bid("hours 99 at most", Check.told("cat a wants 97;room r of a;tenant u hours 98;tenant v hours 94;"), 0, 1, 0, 0);
        bid("99, of like ones the first", Check.told("cat a wants 97;room r of a;tenant u hours 99;tenant v hours 98;"), 0, 1, 0, 1, 0, 0);
        bid("two are at 99: like ones", Check.told("cat a wants 98;room r of a;tenant u hours 98;tenant v hours 98;"), 0, 1, 0, 1, 1, 0);
    }

    private static void bidEdges() {
        CatLeases x = Check.told("cat a wants 5;room r of a;room s;room p of a;tenant t hours 11;tenant u hours 4;tenant v hours 9 in p;");
        bid("a rest", x, 0, 1, 0, 1, 0, 0);
        bid("both are one", x, 0, 0, 0, -1);
        x.letting();
        bid("one is not out", x, 0, 2, 0, -1);
        bid("the other one", x, 2, 0, 0, -1);
        bid("in probate", x, 0, 1, 1, -1);
        bid("not empty", x, 0, 1, 2, -1);
        bid("no such room", x, 0, 1, 3, -1);
        bid("no such room", x, 0, 1, -1, -1);
        bid("no such tenant", x, 0, 3, 0, -1);
        bid("no such tenant", x, -1, 0, 0, -1);
        Check.due("lies(0)", -2, x.lies(0));
        bid("liked by the least bid alone", Check.told("cat a wants 5;room r of a;tenant t hours 10;tenant u hours 10;"
            + "likes (hours = 10) * 2 - (hours = 12);"), 0, 1, 0, 1, 0, 0);
    }

    private static void promise31() {
        String told = "cat a wants 5;cat b wants 9;room p of a;room q of b;room r of a;room z;tenant t hours 20 in p;tenant u hours 9;";
        CatLeases x = Check.told(told + "likes hours - wants - stayed - quarter * (rooms > 1);");
        // In p: 15 - stayed - quarter, so 8 go by; in q: 11 - stayed, so 12 do; r as p; z for good.
        Check.due("haven(0, 0)", 3, x.haven(0, 0));
        Check.due("haven(0, 1)", 99, x.haven(0, 1));
        x.claim(3, 0);
        Check.due("haven(0, 0)", 1, x.haven(0, 0));
        Check.due("haven(0, 1)", 12, x.haven(0, 1));
        Check.due("like ones: thrown out at once in q", 2, x.haven(1, 0));
        Check.due("haven(1, 1)", 3, x.haven(1, 1));
        Check.due("haven(0, 2)", -1, x.haven(0, 2));
        Check.due("haven(0, -1)", -1, x.haven(0, -1));
        Check.due("haven(2, 0)", -1, x.haven(2, 0));
        Check.due("haven(-1, 1)", -1, x.haven(-1, 1));
        CatLeases y = Check.told("cat a wants 5;room p of a;room q of a;tenant t hours 20 in q;tenant u hours 1 in p;tenant v hours 1;likes 5 - stayed;");
        y.quarter();
        y.quarter();
        Check.due("in his own he stays", 1, y.haven(0, 0));
        Check.due("less of it is left", 4, y.haven(0, 1));
        Check.due("none for him", -1, y.haven(2, 0));
        Check.due("none for him", -1, y.haven(2, 1));
        y.leave(1);
        Check.due("anew elsewhere", 0, y.haven(0, 0));
        Check.due("anew elsewhere", 6, y.haven(0, 1));
        CatLeases z = Check.told("cat a wants 5;room p of a;room q;tenant t hours 20;likes 98 - stayed;");
        Check.due("99 at most count", 0, z.haven(0, 0));
        Check.due("99", 99, z.haven(0, 1));
    }

    private static void promise32() {
        String told = "cat a wants 5;cat b wants 9 heir a;room p of a;room q of a;room r of b;tenant t hours 9 in p;tenant u hours 7 in q;";
        Check.due("crowd(0)", 8, Check.told(told).crowd(0));
        CatLeases x = Check.told(told + "likes hours - wants - rooms;dies 100;");
        Check.due("crowd(0)", 1, x.crowd(0));
        Check.due("without tenants", 8, x.crowd(1));
        x.exchange(0, 1);
        x.spend(0, 6);
        x.spend(1, 9);
        Check.due("the first one alone tells", 0, x.crowd(0));
        Check.due("crowd(2)", -1, x.crowd(2));
        Check.due("crowd(-1)", -1, x.crowd(-1));
        x.quarter();
        Check.due("of a dead one", -1, x.crowd(0));
        Check.due("0 rooms", 0, Check.told(told + "likes 1 - rooms;").crowd(0));
        Check.due("by none", -1, Check.told(told + "likes 0 - rooms;").crowd(0));
        Check.due("by 6 only", 6, Check.told(told + "likes rooms = 6 or rooms = 2;").crowd(0));
    }

    private static void promises33And34() {
        String told = "cat a wants 5;cat b wants 9 heir a;cat c wants 1;room p of a;room q of a;room r of b;room s of c;room z;";
        Check.due("none has a tenant", -1, Check.told(told + "tenant t hours 1;tenant u hours 1 in z;").fondest());
        Check.due("together", 0, Check.told(told + "tenant t hours 9 in p;tenant u hours 9 in q;tenant v hours 16 in r;").fondest());
        Check.due("of like ones", 0, Check.told(told + "tenant t hours 9 in p;tenant u hours 9 in q;tenant v hours 17 in r;").fondest());
        Check.due("more", 1, Check.told(told + "tenant t hours 9 in p;tenant u hours 9 in q;tenant v hours 18 in r;").fondest());
        Check.due("only who has one", 1, Check.told(told + "tenant v hours 3 in r;").fondest());
        Check.due("9999 at most", 0, Check.told(told + "tenant t hours 1 in p;tenant u hours 1 in q;tenant v hours 9 in r;likes 9999 * hours;").fondest());
        Check.due("-9999 at least", 1, Check.told(told + "tenant t hours 5 in p;tenant u hours 5 in q;tenant v hours 9 in r;likes 0 - 9999 * hours;").fondest());
        Check.due("nobodys()", 5, Check.told(told + "tenant t hours 1 in z;tenant u hours 2;tenant v hours 1 in s;").nobodys());
        Check.due("without rooms that are kept", 3, Check.told("cat a wants 0;room z;tenant t hours 9;tenant u hours 9 in z;").nobodys());
        CatLeases x = Check.told(told + "tenant t hours 1 in z;tenant u hours 2 in p;likes 1 + quarter * (stayed - 1);");
        Check.due("nobodys()", 0, x.nobodys());
        x.quarter();
        x.quarter();
        Check.due("stayed as now", 1, x.nobodys());
    }

    private static void promise35() {
        CatLeases x = Check.told("cat a wants 0;room p of a;room q of a;room z;tenant t hours 60 in p;tenant u hours 2 in q;tenant v hours 0 in z;tenant w hours 9;"
            + "likes hours - stayed;dies 100;");
        Check.due("housed(0)", 3, x.housed(0));
        Check.due("housed(2)", 3, x.housed(2));
        Check.due("housed(3)", 2, x.housed(3));
        Check.due("housed(60)", 2, x.housed(60));
        Check.due("housed(61)", -1, x.housed(61));
        Check.due("housed(-1)", -1, x.housed(-1));
        x.quarter();
        Check.due("in probate", 3, x.housed(60));
    }

    private static void promise37() {
        CatLeases x = Check.told("cat a wants 5;cat b wants 7;room p of a;room q of a;room r of b;tenant t hours 60 in p;tenant u hours 2 in q;tenant v hours 3;dies 100;");
        Check.due("purse(0)", 52, x.purse(0));
        Check.due("purse(1)", 0, x.purse(1));
        Check.due("purse(2)", -1000000, x.purse(2));
        Check.due("purse(-1)", -1000000, x.purse(-1));
        x.move(2, 2);
        Check.due("purse(1)", -4, x.purse(1));
        x.spend(2, 10);
        Check.due("purse(1)", 3, x.purse(1));
        x.quarter();
        Check.due("of a dead one", 0, x.purse(0));
    }

    private static void promise38() {
        CatLeases x = Check.told("cat a wants 5;dies 45;");
        int[] upper = {1, 11, 121, 1331, 14641};
        int[] lower = {1, 20, 400, 8000, 160000};
        for (int n = 0; n <= 4; n++) {
            Check.due("odds(0, " + n + ", 0)", upper[n], x.odds(0, n, 0));
            Check.due("odds(0, " + n + ", 1)", lower[n], x.odds(0, n, 1));
        }
        Check.due("odds(0, 5, 0)", -1, x.odds(0, 5, 0));
        Check.due("odds(0, -1, 0)", -1, x.odds(0, -1, 0));
        Check.due("odds(0, 1, 2)", -1, x.odds(0, 1, 2));
        Check.due("odds(0, 1, -1)", -1, x.odds(0, 1, -1));
        Check.due("odds(1, 1, 0)", -1, x.odds(1, 1, 0));
        Check.due("odds(-1, 1, 0)", -1, x.odds(-1, 1, 0));
        CatLeases all = Check.told("cat a wants 5;dies 100;");
        Check.due("0 of 1", 0, all.odds(0, 2, 0));
        Check.due("0 of 1", 1, all.odds(0, 2, 1));
        Check.due("1 of 1 behind 0", 1, all.odds(0, 0, 0));
        all.quarter();
        Check.due("of a dead one", -1, all.odds(0, 0, 0));
        CatLeases none = Check.told("cat a wants 5;");
        Check.due("1 of 1", 1, none.odds(0, 4, 0));
        Check.due("1 of 1", 1, none.odds(0, 4, 1));
        CatLeases odd = Check.told("cat a wants 5;dies 1;");
        Check.due("99 ^ 4", 96059601, odd.odds(0, 4, 0));
        Check.due("100 ^ 4", 100000000, odd.odds(0, 4, 1));
    }

    private static void promise39() {
        CatLeases x = Check.told("cat a wants 5;room p of a;tenant t hours 9;tenant u hours 8;");
        Check.due("lies(0) of nothing", -2, x.lies(0));
        x.letting();
        Check.due("lies(1)", -1, x.lies(1));
        Check.due("lies(2)", -2, x.lies(2));
        Check.due("lies(-1)", -2, x.lies(-1));
        Check.due("lies(max)", -2, x.lies(Integer.MAX_VALUE));
        x.move(0, 0);
        Check.due("it lies there still", 0, x.lies(0));
        Check.due("bid is none", -1, x.bid(0, 1, 0));
        Check.due("nothing lies there", 0, x.about(13));
    }

    /** As many of each sort as can be: no row is too short. */
    private static void full() {
        StringBuilder s = new StringBuilder();
        for (int c = 0; c < 6; c++) s.append("cat c").append((char) ('a' + c)).append(" wants ").append(c).append(c == 0 ? ";" : " heir c" + (char) ('a' + c - 1) + ";");
        for (int r = 0; r < 8; r++) s.append("room r").append((char) ('a' + r)).append(r < 7 ? " of c" + (char) ('a' + Math.min(5, r)) + ";" : ";");
        for (int t = 0; t < 7; t++) s.append("tenant t").append((char) ('a' + t)).append(" hours 9 in r").append((char) ('a' + t)).append(";");
        CatLeases x = Check.told(s.toString());
        Check.due("shaky()", 0, x.shaky());
        Check.due("law(9)", 7, x.law(9));
        Check.due("housed(60)", 7, x.housed(60));
        Check.due("nobodys()", 0, x.nobodys());
        Check.due("fondest()", 0, x.fondest());
        Check.due("purse(5)", 8, x.purse(5));
        Check.due("crowd(5)", 8, x.crowd(5));
        Check.due("swaps(0)", 0, x.swaps(0));
        let("full", x, 7, 63 - 20, 0, 1, 2, 3, 4, 5, 6);
        Check.due("keeper(6, 62)", 0, x.keeper(6, 62));
        Check.due("keeper(6, 63)", -1, x.keeper(6, 63));
        Check.due("probate(63)", 8, x.probate(63));
        Check.due("probate(64)", -1, x.probate(64));
        Check.due("grief(5, 20)", 0, x.grief(5, 20));
        Check.due("haven(6, 0)", 6, x.haven(6, 0));
        Check.due("lasts(6)", -1, x.lasts(6));
        Check.due("will(6, 60, 1)", 6, x.will(6, 60, 1));
        Check.due("quarter()", 0, x.quarter());
        Check.due("cat(5, 4)", 96, x.cat(5, 4));
        Check.due("move(6, 7)", 6, x.move(6, 7));
        Check.due("who is out", 0, x.about(4));
        Check.due("claim(7, 5)", 3, x.claim(7, 5));
        Check.due("room(7, 1)", 6, x.room(7, 1));
        for (int t = 0; t < 7; t++) x.leave(t);
        Check.due("who is out", 127, x.about(4));
        Check.due("bid(6, 5, 7)", 0, x.bid(6, 5, 7));
        Check.due("fits", 100, x.fits(0));
        Check.due("ask", 5, x.ask(9, 0, 0));
        Check.due("ask", 91, x.ask(9, 1, 0));
    }

    private static void nothingIsDone() {
        CatLeases x = Check.told(HEIRS + "tenant t hours 6 in p;tenant u hours 3 in q;tenant v hours 4;likes hours - stayed;dies 40;draw 5;");
        x.quarter();
        x.spend(0, 7);
        x.undo();
        x.will(0, 60, 1);
        x.will(0, 60, 0);
        x.lasts(0);
        x.shaky();
        x.letting();
        x.pleasure();
        x.swaps(0);
        x.pay(0);
        x.borne(0);
        x.keeper(0, 15);
        x.probate(15);
        x.grief(1, 20);
        x.bid(2, 1, 3);
        x.haven(2, 0);
        x.crowd(0);
        x.fondest();
        x.nobodys();
        x.housed(60);
        x.law(99);
        x.purse(0);
        x.odds(0, 4, 0);
        x.fits(0);
        x.ask(3, 0, 0);
        CatLeases y = Check.told(HEIRS + "tenant t hours 6 in p;tenant u hours 3 in q;tenant v hours 4;likes hours - stayed;dies 40;draw 5;");
        y.quarter();
        for (int what = 0; what <= 6; what++) Check.due("about(" + what + ") stays", y.about(what), x.about(what));
        Check.due("redo stays", 1, x.about(8));
        for (int t = 0; t < 3; t++) {
            for (int what = 0; what <= 4; what++) Check.due("tenant stays", y.tenant(t, what), x.tenant(t, what));
        }
        for (int r = 0; r < 5; r++) Check.due("room stays", y.room(r, 0), x.room(r, 0));
    }
}
