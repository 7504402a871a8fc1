/** Promises 6 to 18 and 46 to 48: what there is, acts, undone and done again, images. */
public final class ActsTest {
    private static final String THREE = "cat a wants 5;cat b wants 9 heir a;cat c wants 2 heir b;"
        + "room p of a;room q of b;room r;room s of c;"
        + "tenant t hours 8 warm 2 fidgets 1 in p;tenant u hours 3 warm 1 fidgets 4 in q;tenant v hours 10;tenant w hours 1 fidgets 9 in r;";

    public static void main(String[] args) {
        promises6To9();
        promise10();
        deaths();
        promises11To13();
        promises14To16();
        promises17And18();
        promises46And47();
        promise48();
        Check.end("ActsTest");
    }

    private static void rows(String name, int[] want, java.util.function.IntUnaryOperator ask) {
        for (int i = 0; i < want.length; i++) Check.due(name + " " + i, want[i], ask.applyAsInt(i));
    }

    private static void promises6To9() {
        CatLeases x = Check.told(THREE);
        rows("cat 0", new int[] {1, 5, -1, 1, 1, -2}, i -> x.cat(0, i));
        rows("cat 1", new int[] {1, 9, 0, 2, 2, -2}, i -> x.cat(1, i));
        rows("cat 2", new int[] {1, 2, 1, 8, 0, -2}, i -> x.cat(2, i));
        Check.due("cat(0, -1)", -2, x.cat(0, -1));
        Check.due("cat(3, 0)", -2, x.cat(3, 0));
        Check.due("cat(-1, 0)", -2, x.cat(-1, 0));
        rows("room p", new int[] {0, 0, -2}, i -> x.room(0, i));
        rows("room r", new int[] {-1, 3, -2}, i -> x.room(2, i));
        rows("room s", new int[] {2, -1, -2}, i -> x.room(3, i));
        Check.due("room(4, 0)", -2, x.room(4, 0));
        Check.due("room(-1, 0)", -2, x.room(-1, 0));
        Check.due("room(0, -1)", -2, x.room(0, -1));
        rows("tenant t", new int[] {0, 8, 2, 1, 0, -2}, i -> x.tenant(0, i));
        rows("tenant v", new int[] {-1, 10, 0, 0, 0, -2}, i -> x.tenant(2, i));
        Check.due("tenant(4, 0)", -2, x.tenant(4, 0));
        Check.due("tenant(-1, 0)", -2, x.tenant(-1, 0));
        Check.due("tenant(0, -1)", -2, x.tenant(0, -1));
        Check.due("liking(0, 0)", 8, x.liking(0, 0));
        Check.due("liking(0, 1)", 4, x.liking(0, 1));
        Check.due("liking(3, 0)", -13, x.liking(3, 0));
        Check.due("liking in probate", -1000000000, x.liking(3, 2));
        Check.due("liking(4, 0)", -1000000000, x.liking(4, 0));
        Check.due("liking(-1, 0)", -1000000000, x.liking(-1, 0));
        Check.due("liking(0, 4)", -1000000000, x.liking(0, 4));
        Check.due("liking(0, -1)", -1000000000, x.liking(0, -1));
        CatLeases y = Check.told("cat a wants 1;room p of a;room q of a;room r;tenant t hours 1 in p;likes stayed * 100 + quarter * 10 + rooms;");
        Check.due("rooms", 2, y.liking(0, 0));
        y.quarter();
        Check.due("stayed, quarter", 112, y.liking(0, 0));
        Check.due("stayed elsewhere", 12, y.liking(0, 1));
        y.claim(2, 0);
        Check.due("rooms claimed", 13, y.liking(0, 2));
    }

    private static void promise10() {
        CatLeases x = Check.told(THREE);
        Check.due("quarter()", 2, x.quarter());
        Check.due("thrown out", -1, x.tenant(1, 0));
        Check.due("thrown out: stayed", 0, x.tenant(1, 4));
        Check.due("stayed in a room that is kept", 1, x.tenant(0, 4));
        Check.due("stayed in probate", 1, x.tenant(3, 4));
        Check.due("stayed while out", 0, x.tenant(2, 4));
        Check.due("the quarter", 1, x.about(5));
        Check.due("the seed", ((71 * 137 + 71) % 1000 * 137 + 71) % 1000, x.about(6));
        Check.due("none dies by 0", 7, x.about(3));
        CatLeases y = Check.told("cat a wants 1;room p of a;tenant t hours 1 in p;likes stayed < 3;");
        for (int i = 0; i < 3; i++) Check.due("quarter " + i, 0, y.quarter());
        Check.due("stayed", 3, y.tenant(0, 4));
        Check.due("quarter of 0", 1, y.quarter());
        Check.due("quarter without any", 0, y.quarter());
        last();
    }

    private static void last() {
        CatLeases y = Check.told("room p;tenant t hours 1 in p;");
        // More calls than are promised, as there is no other way to the last quarter.
        for (int i = 0; i < 999; i++) Check.due("quarter " + i, 0, y.quarter());
        Check.due("behind 999", -1, y.quarter());
        Check.due("the quarter", 999, y.about(5));
        Check.due("stayed", 999, y.tenant(0, 4));
        Check.due("acts", 40, y.about(7));
        Check.due("will beyond", 0, y.will(0, 60, 1));
        CatLeases z = Check.told("cat a wants 0;room p of a;tenant t hours 1 in p;tenant u hours 1;room q of a;likes 1000 - stayed + quarter * 0;");
        for (int i = 0; i < 999; i++) z.quarter();
        Check.due("stayed 999 at most, ahead too", -1, z.lasts(0));
        Check.due("stayed 999 at most, ahead too", 0, z.will(0, 60, 1));
        CatLeases q = Check.told("cat a wants 0;room p of a;tenant t hours 1 in p;likes 1001 - quarter;");
        for (int i = 0; i < 999; i++) q.quarter();
        Check.due("the quarter goes on beyond the last", 3, q.lasts(0));
        Check.due("the quarter goes on beyond the last", 0, q.will(0, 2, 1));
        Check.due("the quarter goes on beyond the last", -1, q.will(0, 3, 1));
        Check.due("undo", true, y.undo());
        Check.due("quarter again", 0, y.quarter());
    }

    private static void deaths() {
        // The draws: 7 -> 30, 181, 868.
        CatLeases x = Check.told(THREE + "draw 7;dies 31;");
        Check.due("quarter()", 2, x.quarter());
        Check.due("cats that live", 6, x.about(3));
        Check.due("the seed", 868, x.about(6));
        Check.due("in probate without an heir", -1, x.room(0, 0));
        x.quarter();
        Check.due("draws of those that live only", ((868 * 137 + 71) % 1000 * 137 + 71) % 1000, x.about(6));
        Check.due("less than dies tells", 7, seven("dies 30;"));
        CatLeases all = Check.told(THREE + "dies 100;");
        all.quarter();
        Check.due("all die", 0, all.about(3));
        Check.due("all in probate", -1, all.room(3, 0));
        int seed = all.about(6);
        all.quarter();
        Check.due("no draws for the dead", seed, all.about(6));
        String chain = "cat a wants 0;cat b wants 0 heir a;cat c wants 0 heir b;room r of c;room s of b;draw 8;";
        // 8 -> 167, 950, 221: by 50 c dies alone.
        CatLeases one = Check.told(chain + "dies 50;");
        one.quarter();
        Check.due("c died", 3, one.about(3));
        Check.due("its room goes to b", 1, one.room(0, 0));
        Check.due("b's rooms", 3, one.cat(1, 3));
        Check.due("c's rooms", 0, one.cat(2, 3));
        Check.due("c is dead", 0, one.cat(2, 0));
        Check.due("c's heir", 1, one.cat(2, 2));
        // By 51 b dies at once with c: c's room goes past b.
        CatLeases two = Check.told(chain + "dies 51;");
        two.quarter();
        Check.due("b and c died", 1, two.about(3));
        Check.due("c's room goes to a", 0, two.room(0, 0));
        Check.due("a's rooms", 3, two.cat(0, 3));
        CatLeases three = Check.told(chain + "dies 68;");
        three.quarter();
        Check.due("all died", 0, three.about(3));
        Check.due("probate", -1, three.room(0, 0));
    }

    private static int seven(String dies) {
        CatLeases x = Check.told(THREE + "draw 7;" + dies);
        x.quarter();
        return x.about(3);
    }

    private static void promises11To13() {
        CatLeases x = Check.told(THREE);
        x.quarter();
        Check.due("move(2, 0): one is there", -2, x.move(2, 0));
        Check.due("move(0, 0): he is there", -2, x.move(0, 0));
        Check.due("move(0, 4)", -2, x.move(0, 4));
        Check.due("move(0, -1)", -2, x.move(0, -1));
        Check.due("move(4, 3)", -2, x.move(4, 3));
        Check.due("move(-1, 3)", -2, x.move(-1, 3));
        Check.due("no acts by these", 1, x.about(7));
        Check.due("move(0, 3)", 0, x.move(0, 3));
        Check.due("stayed anew", 0, x.tenant(0, 4));
        Check.due("move(2, 0)", -1, x.move(2, 0));
        Check.due("acts", 3, x.about(7));
        Check.due("leave(1): out", -1, x.leave(1));
        Check.due("leave(4)", -1, x.leave(4));
        Check.due("leave(-1)", -1, x.leave(-1));
        Check.due("leave(3)", 2, x.leave(3));
        Check.due("stayed nowhere", 0, x.tenant(3, 4));
        Check.due("out", 10, x.about(4));
        x.quarter();
        Check.due("stayed", 1, x.tenant(0, 4));
        Check.due("exchange(0, 0)", -1, x.exchange(0, 0));
        Check.due("exchange(0, 1)", -1, x.exchange(0, 1));
        Check.due("exchange(1, 0)", -1, x.exchange(1, 0));
        Check.due("exchange(0, 4)", -1, x.exchange(0, 4));
        Check.due("exchange(-1, 0)", -1, x.exchange(-1, 0));
        Check.due("exchange(0, 2)", 0, x.exchange(0, 2));
        Check.due("the other one's", 3, x.tenant(2, 0));
        Check.due("stayed both", 0, x.tenant(0, 4) + x.tenant(2, 4));
        CatLeases y = Check.told(THREE);
        Check.due("move into probate", -2, y.move(2, 2));
        y.leave(3);
        Check.due("move into probate", -1, y.move(2, 2));
    }

    private static void promises14To16() {
        CatLeases x = Check.told(THREE + "draw 7;dies 31;");
        Check.due("claim(0, 1): kept", -1, x.claim(0, 1));
        Check.due("claim(2, 3)", -1, x.claim(2, 3));
        Check.due("claim(2, -1)", -1, x.claim(2, -1));
        Check.due("claim(4, 1)", -1, x.claim(4, 1));
        Check.due("claim(-1, 1)", -1, x.claim(-1, 1));
        Check.due("claim(2, 1)", 2, x.claim(2, 1));
        Check.due("its cat", 1, x.room(2, 0));
        x.quarter();
        Check.due("claim by a dead one", -1, x.claim(0, 0));
        Check.due("claim(0, 2)", 2, x.claim(0, 2));
        CatLeases y = Check.told(THREE);
        Check.due("spend the same", -1, y.spend(0, 8));
        Check.due("spend(0, 100)", -1, y.spend(0, 100));
        Check.due("spend(0, -1)", -1, y.spend(0, -1));
        Check.due("spend(4, 1)", -1, y.spend(4, 1));
        Check.due("spend(-1, 1)", -1, y.spend(-1, 1));
        Check.due("no acts", 0, y.about(7));
        Check.due("spend(0, 99)", 8, y.spend(0, 99));
        Check.due("spend(0, 0)", 99, y.spend(0, 0));
        Check.due("hours", 0, y.tenant(0, 1));
        Check.due("liking", 0, y.liking(0, 0));
        Check.due("calm the same", -1, y.calm(0, 1));
        Check.due("calm(0, 10)", -1, y.calm(0, 10));
        Check.due("calm(0, -1)", -1, y.calm(0, -1));
        Check.due("calm(4, 1)", -1, y.calm(4, 1));
        Check.due("calm(0, 9)", 1, y.calm(0, 9));
        Check.due("fidgets", 9, y.tenant(0, 3));
        Check.due("calm(0, 0)", 9, y.calm(0, 0));
        Check.due("acts", 4, y.about(7));
    }

    private static void promises17And18() {
        CatLeases x = Check.told(THREE + "draw 7;dies 31;");
        Check.due("undo of none", false, x.undo());
        Check.due("redo of none", false, x.redo());
        x.quarter();
        x.move(2, 1);
        x.spend(2, 50);
        Check.due("undo", true, x.undo());
        Check.due("hours", 10, x.tenant(2, 1));
        Check.due("undo", true, x.undo());
        Check.due("place", -1, x.tenant(2, 0));
        Check.due("undo", true, x.undo());
        Check.due("cats live again", 7, x.about(3));
        Check.due("seed", 7, x.about(6));
        Check.due("quarter", 0, x.about(5));
        Check.due("place", 1, x.tenant(1, 0));
        Check.due("undo", false, x.undo());
        Check.due("undone, redone", 3, x.about(8));
        Check.due("redo", true, x.redo());
        Check.due("redo", true, x.redo());
        Check.due("place", 1, x.tenant(2, 0));
        Check.due("what does nothing is no act", -1, x.leave(1));
        Check.due("redoable", 1, x.about(8));
        Check.due("redo", true, x.redo());
        Check.due("hours", 50, x.tenant(2, 1));
        x.undo();
        x.calm(0, 5);
        Check.due("till another act", false, x.redo());
        Check.due("acts", 3, x.about(7));
        CatLeases y = Check.told(THREE);
        for (int i = 1; i <= 50; i++) y.spend(0, 8 + i);
        Check.due("40 are kept", 40, y.about(7));
        for (int i = 0; i < 40; i++) Check.due("undo " + i, true, y.undo());
        Check.due("the oldest are gone", false, y.undo());
        Check.due("hours then", 18, y.tenant(0, 1));
        for (int i = 0; i < 40; i++) Check.due("redo " + i, true, y.redo());
        Check.due("redo", false, y.redo());
        Check.due("hours", 58, y.tenant(0, 1));
    }

    private static void promises46And47() {
        CatLeases x = Check.told(THREE + "draw 7;dies 31;");
        Check.due("image(-1)", -1, x.image(-1));
        Check.due("image(3)", -1, x.image(3));
        Check.due("back(-1)", -1, x.back(-1));
        Check.due("back(3)", -1, x.back(3));
        for (int box = 0; box < 3; box++) Check.due("back of nothing", -1, x.back(box));
        x.calm(0, 2);
        x.quarter();
        Check.due("image(2)", 1, x.image(2));
        x.letting();
        x.seen(1, 1, true);
        x.later(3);
        x.claim(0, 1);
        x.spend(0, 1);
        x.calm(0, 3);
        x.quarter();
        x.quarter();
        x.undo();
        Check.due("back(0)", -1, x.back(0));
        Check.due("back(2)", 1, x.back(2));
        Check.due("places", -1, x.tenant(1, 0));
        Check.due("stayed", 1, x.tenant(0, 4));
        Check.due("keepers", -1, x.room(0, 0));
        Check.due("cats", 6, x.about(3));
        Check.due("hours", 8, x.tenant(0, 1));
        Check.due("fidgets", 2, x.tenant(0, 3));
        Check.due("quarter", 1, x.about(5));
        Check.due("seed", 868, x.about(6));
        Check.due("no acts", 0, x.about(7) + x.about(8));
        Check.due("undo", false, x.undo());
        Check.due("redo", false, x.redo());
        Check.due("what lies there stays", 4, x.about(13));
        Check.due("what is seen stays", 1, x.about(9));
        Check.due("the time stays", 3, x.about(10));
        x.spend(0, 2);
        x.quarter();
        Check.due("back once more", 1, x.back(2));
        Check.due("hours", 8, x.tenant(0, 1));
        x.quarter();
        Check.due("image over it", 2, x.image(2));
        Check.due("image(0)", 2, x.image(0));
        x.quarter();
        Check.due("image(1)", 3, x.image(1));
        Check.due("back(0)", 2, x.back(0));
        Check.due("back(2)", 2, x.back(2));
        Check.due("back(1)", 3, x.back(1));
    }

    private static void promise48() {
        CatLeases x = Check.told(THREE + "likes hours + (1);draw 7;dies 31;");
        x.quarter();
        x.spend(0, 20);
        x.spend(0, 21);
        x.undo();
        x.seen(1, 1, true);
        x.untell(0);
        x.later(9);
        x.feed(0, 0, 0, 0, 0);
        x.letting();
        int[] want = {4, 3, 4, 6, 4, 1, 868, 2, 1, 1, 9, 20, 3, 4, -1};
        rows("about", want, x::about);
        Check.due("about(-1)", -1, x.about(-1));
    }
}
