/** Promises 1 to 5 and the terms behind them: the tape, the text, its tokens, its formula and its faults. */
public final class TextTest {
    public static void main(String[] args) {
        promise1();
        promise2();
        promise3();
        promise4();
        promise5();
        tokens();
        lines();
        formulas();
        formulaLimits();
        Check.end("TextTest");
    }

    private static void promise1() {
        CatLeases x = new CatLeases();
        int[] want = {0, 0, 0, 0, 0, 0, 0, 0, 0, 0, 0, 0, 0, 0, -1};
        for (int what = 0; what < want.length; what++) Check.due("about(" + what + ")", want[what], x.about(what));
        Check.due("fault(0)", 0, x.fault(0));
        Check.due("fault(1)", -1, x.fault(1));
        Check.due("mews() of nothing", 0, x.mews());
        Check.due("NONE", -1, CatLeases.NONE);
    }

    private static void promise2() {
        CatLeases x = new CatLeases();
        for (int i = 1; i <= 80; i++) Check.due("feed", 20 * i, x.feed(0, 0, 0, 0, 0));
        Check.due("feed beyond 1600", -1, x.feed(0, 0, 0, 0, 0));
        Check.due("about(11)", 1600, x.about(11));
        x.end(1581);
        Check.due("feed beyond 1600", -1, x.feed(0, 0, 0, 0, 0));
        x.end(1580);
        Check.due("feed up to 1600", 1600, x.feed(0, 0, 0, 0, 0));
        CatLeases y = new CatLeases();
        y.feed(0x726f6f6d, 0x20617474, 0x69633b20, 0x20202020, 0x20202020);
        Check.due("mews of the highest byte first", 0, y.mews());
        Check.due("rooms", 1, y.about(2));
        CatLeases z = new CatLeases();
        z.feed(0x20202020, 0x20202020, 0x20202020, 0x20202020, 0xff202020);
        Check.due("a byte above 127", -1, z.mews());
        Check.due("its place", 16, z.fault(1));
    }

    private static void promise3() {
        CatLeases x = new CatLeases();
        Check.due("end(0)", 0, x.end(0));
        Check.due("end(1) of none", -1, x.end(1));
        x.feed(0, 0, 0, 0, 0);
        Check.due("end(-1)", -1, x.end(-1));
        Check.due("end(21)", -1, x.end(21));
        Check.due("about(11)", 20, x.about(11));
        Check.due("end(20)", 20, x.end(20));
        Check.due("end(7)", 7, x.end(7));
        Check.due("about(11)", 7, x.about(11));
        Check.due("end(min)", -1, x.end(Integer.MIN_VALUE));
        Check.due("end(max)", -1, x.end(Integer.MAX_VALUE));
        Check.due("feed", 27, x.feed(0, 0, 0, 0, 0));
    }

    private static void promise4() {
        CatLeases x = Check.told("cat a wants 5;room r of a;room s of a;tenant t hours 9 in r;tenant u hours 9;draw 12;");
        Check.due("tape", 0, x.about(11));
        Check.due("seed", 12, x.about(6));
        x.quarter();
        x.quarter();
        x.undo();
        x.seen(1, 0, true);
        x.letting();
        x.image(1);
        x.later(5);
        Check.put(x, "cat a wants x;");
        Check.due("a fault", -1, x.mews());
        Check.due("all stays: the tape", 14, x.about(11));
        Check.due("the quarter", 1, x.about(5));
        Check.due("acts", 1, x.about(7));
        Check.due("acts to redo", 1, x.about(8));
        Check.due("seen", 1, x.about(9));
        Check.due("numbers that lie", 2, x.about(13));
        Check.due("tenants", 2, x.about(0));
        x.end(0);
        Check.put(x, "tenant t hours 9;tenant u hours 3;tenant v hours 4;");
        Check.due("mews()", 3, x.mews());
        int[] want = {3, 0, 0, 0, 7, 0, 0, 0, 0, 0, 5, 0, 0, 0};
        for (int what = 0; what < want.length; what++) Check.due("about(" + what + ")", want[what], x.about(what));
        Check.due("boxes are empty", -1, x.back(1));
        Check.due("undo()", false, x.undo());
        Check.due("redo()", false, x.redo());
    }

    private static void promise5() {
        CatLeases x = new CatLeases();
        Check.put(x, "room r;;");
        x.mews();
        Check.due("fault(0)", 2, x.fault(0));
        Check.due("fault(1)", 7, x.fault(1));
        Check.due("fault(2)", -1, x.fault(2));
        Check.due("fault(-1)", -1, x.fault(-1));
        x.end(7);
        Check.due("mews()", 0, x.mews());
        Check.due("fault(0)", 0, x.fault(0));
        Check.due("fault(1)", -1, x.fault(1));
    }

    private static void tokens() {
        Check.noFault("");
        Check.noFault(" \n \n");
        Check.noFault("cat\na\nwants\n7\n;\n");
        Check.noFault("cat abcdefgh wants 0007;");
        Check.noFault("likes(1)<(2)and(3)>(4)or not(5)=6%7*8/9-1+0;");
        Check.noFault("cat mews wants 1;room line;tenant e hours 1;");
        Check.fault("cat abcdefghi wants 7;", 1, 4);
        Check.fault("cat a wants 00007;", 1, 12);
        Check.fault("cat a wants 7x;", 1, 12);
        Check.fault("cat a wants 100x;", 1, 12);
        Check.fault("cat a1wants 7;", 1, 5);
        Check.fault("cat a1 wants 7;", 2, 5);
        Check.fault("cat A wants 7;", 1, 4);
        Check.fault("cat\ta wants 7;", 1, 3);
        Check.fault("cat\ra wants 7;", 1, 3);
        Check.fault("cat a wants 7;\u00e9", 1, 14);
        Check.fault("cat a wants 7;\0", 1, 14);
        Check.fault("catawants 7;", 1, 0);
        Check.fault("cata wants 7;", 2, 0);
        Check.fault("likes 1 & 2;", 1, 8);
        Check.fault("likes 1.5;", 1, 7);
        Check.fault("likes 1 , ;", 1, 8);
        Check.fault("cat a wants 7 &", 1, 14);
        Check.fault("cat a 7 &", 2, 6);
    }

    private static void lines() {
        Check.fault("cat", 2, 3);
        Check.fault("cat a", 2, 5);
        Check.fault("cat a wants", 2, 11);
        Check.fault("cat a wants 7", 2, 13);
        Check.fault("cat a wants 7 \n", 2, 15);
        Check.fault("cat a wants 7 room r;", 2, 14);
        Check.fault("cat a wants b;", 2, 12);
        Check.fault("cat a wants -1;", 2, 12);
        Check.fault("cat 7 wants 7;", 2, 4);
        Check.fault("cat a wants 100;", 4, 12);
        Check.fault("cat a wants 9;cat a wants 100;", 3, 18);
        Check.noFault("cat a wants 99;");
        Check.fault("cat a wants 1 heir a;", 5, 19);
        Check.fault("cat a wants 1 heir b;cat b wants 1;", 5, 19);
        Check.fault("cat a wants 1 heir heir;", 2, 19);
        Check.fault("cat a wants 1 heir 1;", 2, 19);
        Check.noFault("cat a wants 1;cat b wants 1 heir a;");
        Check.fault("room r;room r;", 3, 12);
        Check.fault("room r of c;cat c wants 1;", 5, 10);
        Check.fault("room c;room r of c;", 5, 17);
        Check.noFault("cat a wants 1;room a of a;tenant a hours 1 in a;");
        for (String word : new String[] {"cat", "wants", "heir", "room", "of", "tenant", "hours", "warm", "fidgets", "in",
            "likes", "dies", "draw", "or", "and", "not", "stayed", "rooms", "quarter"}) {
            Check.fault("room " + word + ";", 2, 5);
        }
        Check.fault("tenant t hours 100;", 4, 15);
        Check.fault("tenant t hours 1 warm 10;", 4, 22);
        Check.fault("tenant t hours 1 fidgets 10;", 4, 25);
        Check.fault("tenant t hours 1 fidgets 1 warm 1;", 2, 27);
        Check.fault("tenant t hours 1 warm 1 warm 1;", 2, 24);
        Check.fault("tenant t warm 1;", 2, 9);
        Check.fault("room r;tenant t hours 1 in s;", 5, 27);
        Check.fault("room r;tenant t hours 1 in r warm 1;", 2, 29);
        Check.fault("tenant t hours 1 in r;room r;", 5, 20);
        Check.fault("room r;tenant t hours 1 in r;tenant u hours 1 in r;", 3, 49);
        Check.fault("tenant t hours 1;tenant t hours 100;", 3, 24);
        Check.noFault("room r;tenant t hours 99 warm 9 fidgets 9 in r;");
        Check.fault("dies 101;", 4, 5);
        Check.fault("draw 1000;", 4, 5);
        Check.noFault("dies 100;draw 999;");
        Check.fault("dies 1;dies 1;", 2, 7);
        Check.fault("draw 1;draw 1000;", 2, 7);
        Check.fault("likes 1;likes (;", 2, 8);
        Check.fault("a;", 2, 0);
        Check.fault(";", 2, 0);
        Check.fault("7;", 2, 0);
        manyOfASort("cat ", " wants 1;", 6);
        manyOfASort("room ", ";", 8);
        manyOfASort("tenant ", " hours 1;", 7);
    }

    private static void manyOfASort(String front, String behind, int most) {
        StringBuilder s = new StringBuilder();
        for (int i = 0; i < most; i++) s.append(front).append((char) ('a' + i)).append(behind);
        Check.noFault(s.toString());
        Check.fault(s + " " + front + "a 100", 2, s.length() + 1);
    }

    private static void formulas() {
        Check.formula("hours", 20);
        Check.formula("wants", 5);
        Check.formula("warm", 2);
        Check.formula("fidgets", 3);
        Check.formula("stayed", 0);
        Check.formula("rooms", 1);
        Check.formula("quarter", 0);
        Check.formula("9999", 9999);
        Check.formula("2 + 3 * 4", 14);
        Check.formula("(2 + 3) * 4", 20);
        Check.formula("20 - 3 - 4", 13);
        Check.formula("100 / 5 / 2", 10);
        Check.formula("100 / 7 * 7 + 100 % 7", 100);
        Check.formula("(0 - 7) / 2", -3);
        Check.formula("(0 - 7) % 2", -1);
        Check.formula("7 / (0 - 2)", -3);
        Check.formula("7 % (0 - 2)", 1);
        Check.formula("7 / 0", 0);
        Check.formula("7 % 0", 0);
        Check.formula("1 < 2", 1);
        Check.formula("2 < 2", 0);
        Check.formula("3 > 2", 1);
        Check.formula("2 > 2", 0);
        Check.formula("2 = 2", 1);
        Check.formula("2 = 3", 0);
        Check.formula("1 + 1 < 2 * 2", 1);
        Check.formula("not 5", 0);
        Check.formula("not 0", 1);
        Check.formula("not 5 < 3", 1);
        Check.formula("not not 5", 1);
        Check.formula("5 and 7", 1);
        Check.formula("5 and 0", 0);
        Check.formula("0 or 7", 1);
        Check.formula("0 or 0", 0);
        Check.formula("1 or 0 and 0", 1);
        Check.formula("(1 or 0) and 0", 0);
        Check.formula("not 0 and 0", 0);
        Check.formula("not 1 or 1", 1);
        Check.formula("(1 < 2) + (3 > 2) + 5", 7);
        Check.formula("9999 * 9999 * 9999", 9999 * 9999 * 9999);
        Check.formula("(0 - 8192 * 8192 * 32) / (0 - 1)", Integer.MIN_VALUE);
        Check.formula("(0 - 8192 * 8192 * 32) % (0 - 1)", 0);
        CatLeases x = Check.told("cat a wants 5;room r of a;tenant t hours 20 warm 2 fidgets 3;");
        Check.due("likes not told", 18, x.liking(0, 0));
        Check.due("its units", 0, x.about(12));
        Check.fault("likes ;", 2, 6);
        Check.fault("likes 1 2;", 2, 8);
        Check.fault("likes 1 < 2 < 3;", 2, 12);
        Check.fault("likes 1 + not 2;", 2, 10);
        Check.fault("likes 1 < not 2;", 2, 10);
        Check.fault("likes - 1;", 2, 6);
        Check.fault("likes (1;", 2, 8);
        Check.fault("likes 1);", 2, 7);
        Check.fault("likes ();", 2, 7);
        Check.fault("likes 1 +;", 2, 9);
        Check.fault("likes 1 and;", 2, 11);
        Check.fault("likes or 1;", 2, 6);
        Check.fault("likes ann;", 2, 6);
        Check.fault("likes heir;", 2, 6);
        Check.fault("likes 1", 2, 7);
        Check.fault("likes 10000;", 1, 6);
        Check.fault("likes hours hours;", 2, 12);
    }

    private static void formulaLimits() {
        String thirty = "1" + "+1".repeat(29);
        Check.due("30 units", 30, Check.told("likes " + thirty + ";").about(12));
        Check.fault("likes " + thirty + "+1;", 2, 6 + thirty.length() + 1);
        Check.fault("likes " + thirty + "+(1);", 2, 6 + thirty.length() + 1);
        Check.fault("likes " + thirty + "+;", 2, 6 + thirty.length() + 1);
        Check.due("a unit ( e ) counts", 3, Check.told("likes ((1));").about(12));
        String within = "1" + "+1".repeat(27);
        Check.due("30 units, one ( e )", 30, Check.told("likes (" + within + "+1);").about(12));
        Check.fault("likes (" + within + "+1+1);", 2, 7 + within.length() + 3);
        Check.due("7 deep", 8, Check.told("likes " + "(".repeat(7) + "1" + ")".repeat(7) + ";").about(12));
        Check.fault("likes " + "(".repeat(8) + "1" + ")".repeat(8) + ";", 2, 13);
        Check.noFault("likes " + "not ".repeat(7) + "1;");
        Check.fault("likes " + "not ".repeat(8) + "1;", 2, 34);
        Check.noFault("likes not(not(not(not 1)));");
        Check.fault("likes not(not(not(not (1))));", 2, 22);
        Check.fault("likes not(not(not(not not 1)));", 2, 22);
        Check.noFault("likes not(not(not(not 1)))+(1);");
        StringBuilder nots = new StringBuilder("likes ");
        for (int i = 0; i < 30; i++) nots.append(i == 0 ? "" : " or ").append("not ".repeat(7)).append(i < 29 ? "1" : "0");
        Check.due("all the nots that can be", 30, Check.told(nots + ";").about(12));
        CatLeases x = Check.told("cat a wants 5;room r of a;tenant t hours 20;" + nots + ";");
        Check.due("their value, by the last one alone", 1, x.liking(0, 0));
    }
}
