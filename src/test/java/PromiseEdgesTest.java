/** The edges that promises 1 to 48 name, one promise after another, and calls that can't be: these do nothing. */
public final class PromiseEdgesTest {
    private static final int MIN = Integer.MIN_VALUE;
    private static final int MAX = Integer.MAX_VALUE;
    // By these seeds (7 -> 30, 181, 868) a dies in the first quarter, b and c live.
    private static final String THREE = "cat a wants 5;cat b wants 9 heir a;cat c wants 2 heir b;"
        + "room p of a;room q of b;room r;room s of c;"
        + "tenant t hours 8 warm 2 fidgets 1 in p;tenant u hours 3 warm 1 fidgets 4 in q;tenant v hours 10;tenant w hours 1 fidgets 9 in r;"
        + "draw 7;dies 31;";
    private static final String FULL = full();

    public static void main(String[] args) {
        promise1();
        promise2();
        promise3();
        promise4();
        promise4Faults();
        promise5();
        promises6To9();
        promise10();
        promise11();
        promise12();
        promise13();
        promise14();
        promises15And16();
        promises17And18();
        promise19();
        promise20();
        promise21();
        promises22And23();
        promise24();
        promises25And26();
        promises27And28();
        promise29();
        promise30();
        promise31();
        promise32();
        promises33And34();
        promises35To37();
        promise38();
        promise39();
        promise40();
        promise41();
        promise42();
        promises43And44();
        promise45();
        promises46And47();
        promise48();
        Check.end("PromiseEdgesTest");
    }

    /** As many of each sort as can be: six cats, each the heir of the next, eight rooms, seven tenants who are in them. */
    private static String full() {
        StringBuilder s = new StringBuilder();
        for (int c = 0; c < 6; c++) s.append("cat c").append((char) ('a' + c)).append(" wants 5").append(c == 0 ? ";" : " heir c" + (char) ('a' + c - 1) + ";");
        for (int r = 0; r < 8; r++) s.append("room r").append((char) ('a' + r)).append(" of c").append((char) ('a' + Math.min(r, 5))).append(";");
        for (int t = 0; t < 7; t++) s.append("tenant t").append((char) ('a' + t)).append(" hours 9 in r").append((char) ('a' + t)).append(";");
        return s.toString();
    }

    // ---- 1 to 5: the tape and the mews ----

    /** "An empty MEWS." */
    private static void promise1() {
        CatLeases x = new CatLeases();
        for (int what = 0; what <= 13; what++) Check.due("about(" + what + ")", 0, x.about(what));
        nothingThere(x);
        Check.due("quarter() of an empty one", 0, x.quarter());
        Check.due("it is an act", true, x.undo());
    }

    private static void nothingThere(CatLeases x) {
        Check.idle(x, "cat", -2, () -> x.cat(0, 0));
        Check.idle(x, "room", -2, () -> x.room(0, 0));
        Check.idle(x, "tenant", -2, () -> x.tenant(0, 0));
        Check.idle(x, "liking", -1000000000, () -> x.liking(0, 0));
        Check.idle(x, "move", -2, () -> x.move(0, 0));
        Check.idle(x, "leave", -1, () -> x.leave(0));
        Check.idle(x, "exchange", -1, () -> x.exchange(0, 1));
        Check.idle(x, "claim", -1, () -> x.claim(0, 0));
        Check.idle(x, "spend", -1, () -> x.spend(0, 1));
        Check.idle(x, "calm", -1, () -> x.calm(0, 1));
        Check.idle(x, "undo", 0, () -> x.undo() ? 1 : 0);
        Check.idle(x, "redo", 0, () -> x.redo() ? 1 : 0);
        Check.idle(x, "will", -2, () -> x.will(0, 0, 0));
        Check.idle(x, "lasts", -1, () -> x.lasts(0));
        Check.idle(x, "shaky", 0, x::shaky);
        Check.idle(x, "letting", 0, x::letting);
        Check.idle(x, "pleasure", 0, x::pleasure);
        Check.idle(x, "swaps(0)", 0, () -> x.swaps(0));
        Check.idle(x, "swaps(1)", -1, () -> x.swaps(1));
        Check.idle(x, "pay", -1, () -> x.pay(0));
        Check.idle(x, "borne", -1, () -> x.borne(0));
        Check.idle(x, "keeper", -2, () -> x.keeper(0, 0));
        Check.idle(x, "probate(0)", 0, () -> x.probate(0));
        Check.idle(x, "probate(1)", -1, () -> x.probate(1));
        Check.idle(x, "grief", -1000, () -> x.grief(0, 0));
        Check.idle(x, "bid", -1, () -> x.bid(0, 1, 0));
        Check.idle(x, "haven(0, 0)", -1, () -> x.haven(0, 0));
        Check.idle(x, "haven(0, 1)", -1, () -> x.haven(0, 1));
        Check.idle(x, "crowd", -1, () -> x.crowd(0));
        Check.idle(x, "fondest", -1, x::fondest);
        Check.idle(x, "nobodys", 0, x::nobodys);
        Check.idle(x, "housed", 0, () -> x.housed(60));
        Check.idle(x, "law", 0, () -> x.law(99));
        Check.idle(x, "purse", -1000000, () -> x.purse(0));
        Check.idle(x, "odds", -1, () -> x.odds(0, 0, 0));
        Check.idle(x, "lies", -2, () -> x.lies(0));
        Check.idle(x, "seen", -1, () -> x.seen(0, 0, true));
        Check.idle(x, "untell", 0, () -> x.untell(0) ? 1 : 0);
        Check.idle(x, "fits", 0, () -> x.fits(0));
        Check.idle(x, "sure(0)", -1, () -> x.sure(0, 0));
        Check.idle(x, "sure(1)", -1, () -> x.sure(1, 0));
        Check.idle(x, "ask(0)", -1, () -> x.ask(0, 0, 0));
        Check.idle(x, "ask(1)", -1, () -> x.ask(0, 1, 0));
        for (int box = 0; box < 3; box++) {
            int one = box;
            Check.idle(x, "back", -1, () -> x.back(one));
        }
        Check.idle(x, "end", 0, () -> x.end(0));
        Check.idle(x, "end", -1, () -> x.end(1));
    }

    /** "NONE, and nothing comes, if there would be more than 1,600" */
    private static void promise2() {
        CatLeases x = new CatLeases();
        for (int i = 1; i <= 80; i++) Check.due("feed " + i, 20 * i, x.feed(MIN, MAX, -1, 0, 1));
        Check.idle(x, "1600 and 20", -1, () -> x.feed(1, 2, 3, 4, 5));
        for (int left = 1; left < 20; left++) {
            int n = 1600 - left;
            x.end(n);
            Check.idle(x, n + " and 20", -1, () -> x.feed(1, 2, 3, 4, 5));
        }
        x.end(1580);
        Check.due("1580 and 20", 1600, x.feed(1, 2, 3, 4, 5));
        CatLeases y = new CatLeases();
        // Of each number the highest byte comes first: "room", " r; ".
        y.feed('r' << 24 | 'o' << 16 | 'o' << 8 | 'm', ' ' << 24 | 'r' << 16 | ';' << 8 | ' ', '\n' * 0x01010101, ' ' * 0x01010101, 0xe9202020);
        Check.due("a byte above 127", -1, y.mews());
        Check.due("no token", 1, y.fault(0));
        Check.due("the highest one of the fifth number", 16, y.fault(1));
        y.end(16);
        Check.due("up to it", 0, y.mews());
        Check.due("a room", 1, y.about(2));
    }

    /** "NONE, doing nothing, if it has not so many, or n is below 0" */
    private static void promise3() {
        CatLeases x = new CatLeases();
        Check.put(x, "room a;room b;room c;");
        for (int n : new int[] {-1, 22, 1600, 1601, MIN, MAX}) Check.idle(x, "end(" + n + ")", -1, () -> x.end(n));
        Check.idle(x, "end(21): it has so many", 21, () -> x.end(21));
        Check.due("the first 14", 14, x.end(14));
        Check.idle(x, "end(15): no more", -1, () -> x.end(15));
        x.mews();
        Check.due("the first 14 bytes tell two rooms", 2, x.about(2));
        Check.idle(x, "of none", 0, () -> x.end(0));
        Check.idle(x, "of none", -1, () -> x.end(1));
        Check.put(x, "room a;room b;");
        Check.due("end(0)", 0, x.end(0));
        Check.put(x, "cat a wants 1;");
        x.mews();
        Check.due("what comes behind end(0) comes first", 1, x.about(1));
    }

    private static CatLeases busy() {
        CatLeases x = Check.told(THREE);
        x.quarter();
        x.spend(0, 20);
        x.undo();
        x.image(0);
        x.image(2);
        x.later(3);
        x.seen(1, 1, true);
        x.letting();
        return x;
    }

    /** "(all as told, quarter 0, no ACTS are kept, nothing is SEEN, nothing lies there, BOXES are empty then; the TIME stays)" */
    private static void promise4() {
        CatLeases x = busy();
        Check.put(x, THREE);
        Check.due("the same once more", 4, x.mews());
        int[] want = {4, 3, 4, 7, 4, 0, 7, 0, 0, 0, 3, 0, 0, 0};
        for (int what = 0; what <= 13; what++) Check.due("about(" + what + ")", want[what], x.about(what));
        Check.due("stayed", 0, x.tenant(0, 4));
        Check.due("keepers", 0, x.room(0, 0));
        for (int box = 0; box < 3; box++) Check.due("box " + box, -1, x.back(box));
        Check.due("nothing lies there", -2, x.lies(0));
        Check.due("seen begins anew", 0, x.seen(0, 0, true));
        CatLeases y = busy();
        Check.due("an empty tape is the empty mews", 0, y.mews());
        for (int what = 0; what <= 13; what++) Check.due("about(" + what + ") of it", what == 10 ? 3 : 0, y.about(what));
        nothingThere(y);
        CatLeases z = Check.told(FULL);
        Check.due("full, then less", 1, again(z, "cat a wants 3;room r of a;tenant t hours 1 in r;"));
        Check.due("no tenant of before", -2, z.tenant(1, 0));
        Check.due("no room of before", -2, z.room(1, 0));
        Check.due("no cat of before", -2, z.cat(1, 0));
        Check.due("no heir of before", -1, z.cat(0, 2));
        Check.due("warm as told", 0, z.tenant(0, 2));
        Check.due("one room", 1, z.cat(0, 3));
        Check.due("likes as not told", -2, z.liking(0, 0));
        CatLeases told = Check.told("likes 7;dies 50;draw 9;room r;tenant t hours 9 warm 3 fidgets 4 in r;");
        again(told, "cat a wants 1;room r of a;tenant t hours 3;");
        Check.due("likes is not told now", 2, told.liking(0, 0));
        Check.due("draw is not told now", 0, told.about(6));
        Check.due("units", 0, told.about(12));
        Check.due("dies is not told now", 1, told.odds(0, 1, 0));
        Check.due("he is out", -1, told.tenant(0, 0));
    }

    private static int again(CatLeases x, String text) {
        Check.put(x, text);
        return x.mews();
    }

    /** "NONE: a FAULT (all stays)" */
    private static void promise4Faults() {
        String[] texts = {"?", "cat", "cat a wants 1;cat a wants 1;", "cat a wants 100;", "cat a wants 1 heir z;",
            FULL + "likes 1+1+1;dies 50;draw 77;x", "room r;tenant t hours 1 in r;likes hours; ("};
        for (String text : texts) {
            CatLeases x = busy();
            String world = Check.world(x);
            String kept = Check.kept(x);
            Check.put(x, text);
            Check.due("mews() of " + text, -1, x.mews());
            Check.due("the tape stays", text.length(), x.about(11));
            Check.due("all stays behind " + text, world, Check.world(x));
            Check.due("all stays behind " + text, kept, Check.kept(x));
            Check.due("the same fault again", -1, x.mews());
            Check.due("likes stays", 4, x.liking(0, 1));
            Check.due("redo stays", true, x.redo());
            Check.due("what it does stays", 20, x.tenant(0, 1));
            Check.due("boxes stay", 1, x.back(0));
            Check.due("boxes stay", 1, x.back(2));
            Check.due("one is empty still", -1, x.back(1));
            Check.due("dies stays", 69, x.odds(1, 1, 0));
        }
    }

    /** "Of the latest mews() what 0: its FAULT (0), 1: its place (NONE). NONE for another what." */
    private static void promise5() {
        CatLeases x = new CatLeases();
        Check.due("ahead of any", 0, x.fault(0));
        Check.due("ahead of any", -1, x.fault(1));
        Check.put(x, "room r;room r;");
        Check.due("not asked so far", 0, x.fault(0));
        x.mews();
        Check.due("told already", 3, x.fault(0));
        Check.due("its place", 12, x.fault(1));
        x.end(0);
        x.quarter();
        Check.due("it is of the latest mews()", 3, x.fault(0));
        for (int what : new int[] {-1, 2, 3, MIN, MAX}) Check.idle(x, "fault(" + what + ")", -1, () -> x.fault(what));
        Check.put(x, "room r;?");
        x.mews();
        Check.due("another fault", 1, x.fault(0));
        Check.due("its place", 7, x.fault(1));
        x.end(7);
        x.mews();
        Check.due("none", 0, x.fault(0));
        Check.due("no place", -1, x.fault(1));
        Check.put(x, ";");
        x.mews();
        Check.due("place 0", 0, x.fault(1));
    }

    // ---- 6 to 9: what there is ----

    private static void promises6To9() {
        CatLeases x = Check.told(FULL);
        for (int cat : new int[] {-1, 6, 7, MIN, MAX}) {
            for (int what = 0; what <= 4; what++) {
                int w = what;
                Check.idle(x, "cat(" + cat + ", " + w + ")", -2, () -> x.cat(cat, w));
            }
        }
        for (int what : new int[] {-1, 5, MIN, MAX}) Check.idle(x, "cat(0, " + what + ")", -2, () -> x.cat(0, what));
        for (int room : new int[] {-1, 8, 9, MIN, MAX}) {
            for (int what = 0; what <= 1; what++) {
                int w = what;
                Check.idle(x, "room(" + room + ", " + w + ")", -2, () -> x.room(room, w));
            }
            Check.idle(x, "liking(0, " + room + ")", -1000000000, () -> x.liking(0, room));
        }
        for (int what : new int[] {-1, 2, MIN, MAX}) Check.idle(x, "room(0, " + what + ")", -2, () -> x.room(0, what));
        for (int tenant : new int[] {-1, 7, 8, MIN, MAX}) {
            for (int what = 0; what <= 4; what++) {
                int w = what;
                Check.idle(x, "tenant(" + tenant + ", " + w + ")", -2, () -> x.tenant(tenant, w));
            }
            Check.idle(x, "liking(" + tenant + ", 0)", -1000000000, () -> x.liking(tenant, 0));
        }
        for (int what : new int[] {-1, 5, MIN, MAX}) Check.idle(x, "tenant(0, " + what + ")", -2, () -> x.tenant(0, what));
        Check.due("the last cat's rooms", 0b11100000, x.cat(5, 3));
        Check.due("the last cat's tenants", 0b1100000, x.cat(5, 4));
        Check.due("the first cat has no heir", -1, x.cat(0, 2));
        Check.due("the last cat's heir", 4, x.cat(5, 2));
        Check.due("nobody is in the last room", -1, x.room(7, 1));
        Check.due("the last tenant's room", 6, x.tenant(6, 0));
        Check.due("a liking of the last ones", 4, x.liking(6, 7));
        CatLeases y = Check.told(THREE);
        Check.due("in probate", -1000000000, y.liking(3, 2));
        Check.due("in probate, by another", -1000000000, y.liking(0, 2));
        y.quarter();
        Check.due("a dead one does not live", 0, y.cat(0, 0));
        Check.due("a dead one's wants", 5, y.cat(0, 1));
        Check.due("a dead one's heir", -1, y.cat(0, 2));
        Check.due("a dead one keeps none", 0, y.cat(0, 3));
        Check.due("a dead one has none in hers", 0, y.cat(0, 4));
        Check.due("her room is in probate", -1, y.room(0, 0));
        Check.due("he is in it still", 0, y.room(0, 1));
        Check.due("no liking there", -1000000000, y.liking(0, 0));
    }

    // ---- 10 to 18: acts ----

    /** "who is THROWN OUT, as bits; NONE, doing nothing, behind 999 of them. (An ACT.)" */
    private static void promise10() {
        CatLeases all = Check.told(FULL + "likes 0;");
        Check.due("all seven", 127, all.quarter());
        Check.due("all are out", 127, all.about(4));
        Check.due("none is left", 0, all.quarter());
        Check.due("two acts", 2, all.about(7));
        all.undo();
        all.undo();
        Check.due("all are in again", 0, all.about(4));
        CatLeases x = Check.told("cat a wants 0;room p of a;tenant t hours 9 in p;tenant u hours 1;");
        for (int i = 0; i < 998; i++) x.quarter();
        x.spend(1, 2);
        Check.due("the 999th", 0, x.quarter());
        x.spend(1, 3);
        x.undo();
        Check.idle(x, "behind 999", -1, x::quarter);
        Check.due("redo stays", true, x.redo());
        x.undo();
        x.undo();
        Check.due("998 again", 998, x.about(5));
        Check.due("the 999th again", 0, x.quarter());
        Check.idle(x, "behind 999", -1, x::quarter);
    }

    /** "where he was (-1: out); -2, doing nothing, if somebody is there (he, too), or one can't be. (An ACT.)" */
    private static void promise11() {
        CatLeases x = Check.told(THREE);
        x.quarter();
        x.spend(2, 11);
        x.undo();
        Check.idle(x, "another is there", -2, () -> x.move(2, 0));
        Check.idle(x, "he is there", -2, () -> x.move(0, 0));
        Check.idle(x, "another is there, in probate", -2, () -> x.move(0, 2));
        Check.idle(x, "he is there, in probate", -2, () -> x.move(3, 2));
        for (int n : new int[] {-1, 4, 7, 8, MIN, MAX}) {
            Check.idle(x, "no such room " + n, -2, () -> x.move(2, n));
            Check.idle(x, "no such tenant " + n, -2, () -> x.move(n, 3));
        }
        Check.due("redo stays", 1, x.about(8));
        Check.due("from out", -1, x.move(2, 3));
        Check.due("an act", 0, x.about(8));
        Check.due("from a room", 0, x.move(0, 1));
        Check.due("stayed 0 then", 0, x.tenant(0, 4));
        Check.due("the room that he left is empty", -1, x.room(0, 1));
        Check.due("another may come", 3, x.move(2, 0));
        Check.due("and back into the first", 1, x.move(0, 3));
        x.undo();
        Check.due("undone", 1, x.tenant(0, 0));
        x.undo();
        x.undo();
        Check.due("undone: how long he stayed", 1, x.tenant(0, 4));
    }

    /** "where he was; NONE, doing nothing, if he is out, or there is none such. (An ACT.)" */
    private static void promise12() {
        CatLeases x = Check.told(THREE);
        x.spend(2, 11);
        x.undo();
        Check.idle(x, "he is out", -1, () -> x.leave(2));
        for (int n : new int[] {-1, 4, 7, MIN, MAX}) Check.idle(x, "no such tenant " + n, -1, () -> x.leave(n));
        Check.due("redo stays", 1, x.about(8));
        Check.due("from room 0", 0, x.leave(0));
        Check.due("an act", 1, x.about(7));
        Check.due("no redo", 0, x.about(8));
        Check.due("from probate", 2, x.leave(3));
        Check.idle(x, "he is out now", -1, () -> x.leave(0));
        Check.due("who is out", 13, x.about(4));
        Check.due("nobody is there", -1, x.room(0, 1));
    }

    /** "the first one's ROOM then; NONE, doing nothing, if one is out, both are one, or one can't be. (An ACT.)" */
    private static void promise13() {
        CatLeases x = Check.told(THREE);
        x.spend(2, 11);
        x.undo();
        Check.idle(x, "both are one", -1, () -> x.exchange(0, 0));
        Check.idle(x, "both are one, and out", -1, () -> x.exchange(2, 2));
        Check.idle(x, "the first one is out", -1, () -> x.exchange(2, 0));
        Check.idle(x, "the other one is out", -1, () -> x.exchange(0, 2));
        for (int n : new int[] {-1, 4, 7, MIN, MAX}) {
            Check.idle(x, "no such first one " + n, -1, () -> x.exchange(n, 0));
            Check.idle(x, "no such other one " + n, -1, () -> x.exchange(0, n));
            Check.idle(x, "none such " + n, -1, () -> x.exchange(n, n));
        }
        Check.due("redo stays", 1, x.about(8));
        CatLeases y = Check.told(FULL);
        y.quarter();
        Check.due("the first one's room then", 6, y.exchange(0, 6));
        Check.due("the other one's", 0, y.tenant(6, 0));
        Check.due("stayed", 0, y.tenant(0, 4));
        Check.due("stayed", 0, y.tenant(6, 4));
        Check.due("another's stay goes on", 1, y.tenant(1, 4));
        y.undo();
        Check.due("undone", 1, y.tenant(0, 4));
        Check.due("with probate", 2, x.exchange(0, 3));
    }

    /** "how many that CAT keeps; NONE, doing nothing, if it is kept, the CAT is dead, or one can't be. (An ACT.)" */
    private static void promise14() {
        CatLeases x = Check.told(THREE);
        Check.idle(x, "it is kept", -1, () -> x.claim(0, 1));
        Check.idle(x, "it is kept by herself", -1, () -> x.claim(0, 0));
        x.quarter();
        x.spend(2, 11);
        x.undo();
        Check.idle(x, "the cat is dead", -1, () -> x.claim(0, 0));
        for (int n : new int[] {-1, 4, 8, MIN, MAX}) Check.idle(x, "no such room " + n, -1, () -> x.claim(n, 1));
        for (int n : new int[] {-1, 3, 6, 31, 32, 33, MIN, MAX}) Check.idle(x, "no such cat " + n, -1, () -> x.claim(0, n));
        Check.due("redo stays", 1, x.about(8));
        Check.due("the second one of hers", 2, x.claim(0, 1));
        Check.idle(x, "it is kept now", -1, () -> x.claim(0, 2));
        x.undo();
        Check.due("undone", -1, x.room(0, 0));
        CatLeases eight = Check.told("cat a wants 1;room a;room b;room c;room d;room e;room f;room g;room h;");
        for (int r = 0; r < 8; r++) Check.due("claim " + r, r + 1, eight.claim(r, 0));
        Check.due("all", 255, eight.cat(0, 3));
    }

    /** "HOURS (0 .. 99) are told anew: which they were; NONE, doing nothing, if they are the same, or one can't be." "FIDGETS (0 .. 9)" */
    private static void promises15And16() {
        CatLeases x = Check.told(THREE);
        x.spend(2, 11);
        x.undo();
        Check.idle(x, "the same hours", -1, () -> x.spend(0, 8));
        Check.idle(x, "the same fidgets", -1, () -> x.calm(0, 1));
        for (int n : new int[] {-1, 100, 101, MIN, MAX}) Check.idle(x, "hours " + n, -1, () -> x.spend(0, n));
        for (int n : new int[] {-1, 10, 11, 99, MIN, MAX}) Check.idle(x, "fidgets " + n, -1, () -> x.calm(0, n));
        for (int n : new int[] {-1, 4, 7, MIN, MAX}) {
            Check.idle(x, "no such tenant " + n, -1, () -> x.spend(n, 50));
            Check.idle(x, "no such tenant " + n, -1, () -> x.calm(n, 5));
        }
        Check.due("redo stays", 1, x.about(8));
        Check.due("0 hours", 8, x.spend(0, 0));
        Check.due("99 hours", 0, x.spend(0, 99));
        Check.idle(x, "99 again", -1, () -> x.spend(0, 99));
        Check.due("9 fidgets", 1, x.calm(0, 9));
        Check.due("0 fidgets", 9, x.calm(0, 0));
        Check.idle(x, "0 again", -1, () -> x.calm(0, 0));
        Check.due("acts", 4, x.about(7));
        Check.due("of one who is out", 10, x.spend(2, 9));
        Check.due("of one who is out", 0, x.calm(2, 9));
        x.undo();
        x.undo();
        Check.due("undone", 10, x.tenant(2, 1));
        Check.due("undone", 0, x.tenant(2, 3));
        Check.due("hours count at once", 99 - 5 + 6, x.liking(0, 0));
    }

    /** "UNDO: true; false if there is none." "REDO: true; false if there is none." */
    private static void promises17And18() {
        CatLeases x = Check.told(THREE);
        Check.idle(x, "undo of none", 0, () -> x.undo() ? 1 : 0);
        Check.idle(x, "redo of none", 0, () -> x.redo() ? 1 : 0);
        // Each sort of act is undone and done again, and nothing of it is left or lacking.
        String before = Check.world(x);
        x.quarter();
        x.move(2, 1);
        x.exchange(0, 2);
        x.leave(0);
        x.claim(0, 2);
        x.spend(1, 77);
        x.calm(1, 7);
        String after = Check.all(x);
        for (int i = 0; i < 7; i++) Check.due("undo " + i, true, x.undo());
        Check.idle(x, "no eighth", 0, () -> x.undo() ? 1 : 0);
        Check.due("all is as before", before, Check.world(x));
        Check.due("seven to redo", 7, x.about(8));
        for (int i = 0; i < 7; i++) Check.due("redo " + i, true, x.redo());
        Check.idle(x, "no eighth", 0, () -> x.redo() ? 1 : 0);
        Check.due("all is as after", after, Check.all(x));
        x.image(0);
        x.undo();
        Check.due("back is no act", 1, x.back(0));
        Check.idle(x, "no acts are kept then", 0, () -> x.undo() ? 1 : 0);
        Check.idle(x, "no acts are kept then", 0, () -> x.redo() ? 1 : 0);
        // What is asked is no act.
        x.spend(1, 5);
        x.undo();
        x.letting();
        x.seen(1, 1, true);
        x.untell(0);
        x.later(1);
        x.image(1);
        x.feed(0, 0, 0, 0, 0);
        x.mews();
        Check.due("redo is there still", 1, x.about(8));
        Check.due("redo", true, x.redo());
        Check.due("hours", 5, x.tenant(1, 1));
    }

    // ---- 19 to 21: what lies ahead ----

    /** "behind n QUARTERS (0 .. 60; deaths as the SEED tells (what 1), none (0)); -2 if one can't be" */
    private static void promise19() {
        String told = "cat a wants 0;room r of a;room s;tenant t hours 1 in r;tenant u hours 1 in s;tenant v hours 1;";
        CatLeases x = Check.told(told + "likes 59 - stayed;");
        for (int what = 0; what <= 1; what++) {
            int w = what;
            Check.idle(x, "behind 0", 0, () -> x.will(0, 0, w));
            Check.idle(x, "behind 59", 0, () -> x.will(0, 59, w));
            Check.idle(x, "behind 60", -1, () -> x.will(0, 60, w));
            Check.idle(x, "in probate", 1, () -> x.will(1, 60, w));
            Check.idle(x, "out", -1, () -> x.will(2, 0, w));
            Check.idle(x, "out", -1, () -> x.will(2, 60, w));
            for (int n : new int[] {-1, 61, MIN, MAX}) Check.idle(x, "behind " + n, -2, () -> x.will(0, n, w));
            for (int n : new int[] {-1, 3, 7, MIN, MAX}) Check.idle(x, "no such tenant " + n, -2, () -> x.will(n, 1, w));
        }
        for (int what : new int[] {-1, 2, MIN, MAX}) Check.idle(x, "what " + what, -2, () -> x.will(0, 1, what));
        // 44 -> 99, 634, 929: by 30 she lives through the first quarter and the second's 34, and dies by 29 in the third.
        CatLeases y = Check.told(told + "likes 3 - stayed;draw 44;dies 30;");
        Check.due("he goes in the fourth", 0, y.will(0, 3, 0));
        Check.due("he goes in the fourth", -1, y.will(0, 4, 0));
        Check.due("by then she is dead", 0, y.will(0, 4, 1));
        Check.due("and for good", 0, y.will(0, 60, 1));
        CatLeases z = Check.told(told + "likes 3 - stayed;draw 44;dies 29;");
        Check.due("she lives by 29", -1, z.will(0, 4, 1));
    }

    /** "LASTS (0: he is out; 99 at most); NONE if he is not out by then, or there is none such" */
    private static void promise20() {
        String told = "cat a wants 0;room r of a;room s;tenant t hours 1 in r;tenant u hours 1 in s;tenant v hours 1;";
        for (int n = 0; n <= 98; n += 14) Check.due("lasts", n + 1, Check.told(told + "likes " + n + " - quarter;").lasts(0));
        Check.due("98", 98, Check.told(told + "likes 97 - stayed;").lasts(0));
        Check.due("99", 99, Check.told(told + "likes 98 - stayed;").lasts(0));
        CatLeases x = Check.told(told + "likes 99 - stayed;");
        Check.idle(x, "not out by then", -1, () -> x.lasts(0));
        Check.idle(x, "in probate", -1, () -> x.lasts(1));
        Check.idle(x, "he is out", 0, () -> x.lasts(2));
        for (int n : new int[] {-1, 3, 7, MIN, MAX}) Check.idle(x, "no such tenant " + n, -1, () -> x.lasts(n));
        // Liked again later: he is out by then.
        Check.due("out once is out", 2, Check.told(told + "likes not quarter = 1;").lasts(0));
        CatLeases heir = Check.told("cat a wants 99;cat b wants 0 heir a;room r of b;tenant t hours 1 in r;dies 100;");
        Check.due("nobody dies, if not told otherwise", -1, heir.lasts(0));
    }

    /** "Who would be THROWN OUT by the next QUARTER, as bits." */
    private static void promise21() {
        CatLeases all = Check.told(FULL + "likes 0;");
        Check.idle(all, "all", 127, all::shaky);
        CatLeases none = Check.told(FULL + "likes 1;");
        Check.idle(none, "none", 0, none::shaky);
        CatLeases x = Check.told("cat a wants 0;room p of a;room z;tenant t hours 0 in p;tenant u hours 0 in z;tenant v hours 0;");
        Check.idle(x, "not who is in probate, or out", 1, x::shaky);
        x.quarter();
        Check.idle(x, "who is out already is not", 0, x::shaky);
        CatLeases next = Check.told(FULL + "likes 1 - quarter;");
        Check.idle(next, "the next quarter only", 0, next::shaky);
    }

    // ---- 22 to 30: letting, exchanges, hours, deaths, bids ----

    private static void let(String name, String text, int count, int liking, int... where) {
        CatLeases x = Check.told(text);
        Check.due(name + ": pleasure()", liking, x.pleasure());
        Check.due(name + ": nothing lies by that", 0, x.about(13));
        Check.due(name + ": letting()", count, x.letting());
        Check.due(name + ": about(13)", where.length, x.about(13));
        for (int i = 0; i < where.length; i++) Check.due(name + ": lies(" + i + ")", where[i], x.lies(i));
        Check.due(name + ": behind all", -2, x.lies(where.length));
        Check.due(name + ": no act", 0, x.about(7));
    }

    /** "as many as can be, then the most LIKING together (... 9,999 at most ...); of like ones the first (TENANT by TENANT: the least ROOM, none behind all)" */
    private static void promises22And23() {
        let("no tenants", "cat a wants 0;room r of a;", 0, 0);
        let("no rooms", "cat a wants 0;tenant t hours 1;", 0, 0, -1);
        let("probate alone", "cat a wants 0;room r;tenant t hours 1 in r;", 0, 0, -1);
        let("a liking of 0", "cat a wants 1;room r of a;tenant t hours 1 in r;", 0, 0, -1);
        let("a liking of 1", "cat a wants 1;room r of a;tenant t hours 2;", 1, 1, 0);
        let("9998", "cat a wants 0;room r of a;tenant t hours 1;likes 9998;", 1, 9998, 0);
        let("9999", "cat a wants 0;room r of a;tenant t hours 1;likes 9999;", 1, 9999, 0);
        let("10000", "cat a wants 0;room r of a;tenant t hours 1;likes 9999 + 1;", 1, 9999, 0);
        let("the most of all ints", "cat a wants 0;room r of a;tenant t hours 1;likes 8192 * 8192 * 32 - 1;", 1, 9999, 0);
        let("the least of all ints", "cat a wants 0;room r of a;tenant t hours 1;likes 8192 * 8192 * 32;", 0, 0, -1);
        let("seven of 9999", FULL + "likes 9999 * 2;", 7, 69993, 0, 1, 2, 3, 4, 5, 6);
        let("none of seven", FULL + "likes 0;", 0, 0, -1, -1, -1, -1, -1, -1, -1);
        let("wherever they are now", "cat a wants 0;room p of a;room q of a;tenant t hours 5 in q;tenant u hours 5 in p;", 2, 10, 0, 1);
        // One more counts above all liking: t is liked in p by 9999, in q by 1; u in p alone, by 1.
        let("one more at any cost", "cat a wants 0;cat b wants 1;room p of a;room q of b;tenant t hours 9;tenant u hours 1;"
            + "likes (hours = 9) * (1 + 9998 * (wants = 0)) + (hours = 1) * (wants = 0);", 2, 2, 1, 0);
        // Of like ones: t has the least room that he can have, though another were as good.
        let("tenant by tenant", "cat a wants 0;cat b wants 0;room p of b;room q of a;room r of a;tenant t hours 5;tenant u hours 5;tenant v hours 5;", 3, 15, 0, 1, 2);
        let("none behind all", "cat a wants 0;room p of a;room q of a;tenant t hours 5;tenant u hours 5;tenant v hours 5;", 2, 10, 0, 1, -1);
        let("none for the first one", "cat a wants 0;room p of a;tenant t hours 5;tenant u hours 6;tenant v hours 6;", 1, 6, -1, 0, -1);
        CatLeases x = Check.told(FULL);
        x.letting();
        x.leave(0);
        Check.due("it lies there still", 7, x.about(13));
        Check.due("and is made anew", 7, x.letting());
    }

    /** "both of whom are LIKED more after an exchange (STAYED 0) than now"; "NONE if there are none (what 0: 0), or for another what" */
    private static void promise24() {
        CatLeases none = Check.told(FULL);
        Check.idle(none, "none", 0, () -> none.swaps(0));
        Check.idle(none, "none", -1, () -> none.swaps(1));
        Check.idle(none, "none", -1, () -> none.swaps(2));
        CatLeases all = Check.told(FULL + "likes 1 - stayed + quarter * 2;");
        all.quarter();
        Check.idle(all, "each two of seven", 21, () -> all.swaps(0));
        Check.idle(all, "the first two", 0, () -> all.swaps(1));
        Check.idle(all, "the first two", 1, () -> all.swaps(2));
        for (int what : new int[] {-1, 3, MIN, MAX}) Check.idle(all, "swaps(" + what + ")", -1, () -> all.swaps(what));
        for (int t = 0; t < 5; t++) all.leave(t);
        Check.idle(all, "the last two", 1, () -> all.swaps(0));
        Check.idle(all, "the last two", 5, () -> all.swaps(1));
        Check.idle(all, "the last two", 6, () -> all.swaps(2));
        all.leave(6);
        Check.idle(all, "one alone", 0, () -> all.swaps(0));
        // By the lesser number, then the other one: 0 with 3 comes ahead of 1 with 2.
        CatLeases order = Check.told("cat a wants 1;cat b wants 2;cat c wants 3;cat d wants 4;room p of a;room q of b;room r of c;room s of d;"
            + "tenant t hours 4 in p;tenant u hours 3 in q;tenant v hours 2 in r;tenant w hours 1 in s;likes hours = wants;");
        Check.due("two twos", 2, order.swaps(0));
        Check.due("the lesser one", 0, order.swaps(1));
        Check.due("the other one", 3, order.swaps(2));
    }

    /** "the fewest HOURS (0 .. 99)", "the most FIDGETS (0 .. 9)"; "NONE if none is enough, he is in no ROOM that is kept, or there is none such" */
    private static void promises25And26() {
        String told = "cat a wants 7;room p of a;room z;tenant t hours 9 fidgets 4 in p;tenant u hours 9;tenant v hours 9 in z;";
        int[][] hours = {{-1, 0}, {0, 1}, {97, 98}, {98, 99}, {99, -1}};
        for (int[] row : hours) {
            CatLeases x = Check.told(told + "likes hours - " + (row[0] < 0 ? "0 + 1" : row[0] + "") + ";");
            Check.idle(x, "pay above " + row[0], row[1], () -> x.pay(0));
        }
        int[][] fidgets = {{0, -1}, {1, 0}, {2, 1}, {9, 8}, {10, 9}, {11, 9}};
        for (int[] row : fidgets) {
            CatLeases x = Check.told(told + "likes " + row[0] + " - fidgets;");
            Check.idle(x, "borne below " + row[0], row[1], () -> x.borne(0));
        }
        CatLeases x = Check.told(told);
        for (int t : new int[] {1, 2, 3, 7, -1, MIN, MAX}) {
            Check.idle(x, "pay(" + t + ")", -1, () -> x.pay(t));
            Check.idle(x, "borne(" + t + ")", -1, () -> x.borne(t));
        }
        // Neither goes from what is: a gap between does not matter.
        CatLeases gap = Check.told(told + "likes (hours = 50 or hours = 60) * (fidgets = 2 or fidgets = 4);");
        Check.due("the fewest", 50, gap.pay(0));
        gap.spend(0, 60);
        Check.due("the fewest", 50, gap.pay(0));
        Check.due("the most", 4, gap.borne(0));
        gap.calm(0, 0);
        Check.due("none by these fidgets", -1, gap.pay(0));
        Check.due("the most", 4, gap.borne(0));
    }

    /** "if some CATS (as bits, also dead ones) DIED now: -1: PROBATE; -2 if one can't be"; "NONE if one can't be" */
    private static void promises27And28() {
        CatLeases x = Check.told(FULL);
        Check.idle(x, "nobody", 5, () -> x.keeper(7, 0));
        Check.idle(x, "all", -1, () -> x.keeper(7, 63));
        Check.idle(x, "all but the first", 0, () -> x.keeper(7, 62));
        Check.idle(x, "nobody", 0, () -> x.probate(0));
        Check.idle(x, "all", 8, () -> x.probate(63));
        Check.idle(x, "all but the first", 0, () -> x.probate(62));
        Check.idle(x, "the first alone", 1, () -> x.probate(1));
        for (int set : new int[] {-1, 64, 65, 128, MIN, MAX}) {
            Check.idle(x, "keeper(0, " + set + ")", -2, () -> x.keeper(0, set));
            Check.idle(x, "probate(" + set + ")", -1, () -> x.probate(set));
        }
        for (int room : new int[] {-1, 8, MIN, MAX}) Check.idle(x, "keeper(" + room + ", 0)", -2, () -> x.keeper(room, 0));
        CatLeases y = Check.told(THREE);
        y.quarter();
        Check.idle(y, "a dead one dies", 1, () -> y.keeper(1, 1));
        Check.idle(y, "a dead heir", -1, () -> y.keeper(1, 2));
        Check.idle(y, "a dead heir's heir", -1, () -> y.keeper(3, 6));
        Check.idle(y, "in probate", -1, () -> y.keeper(0, 0));
        Check.idle(y, "a dead one dies", 2, () -> y.probate(1));
        Check.idle(y, "all, dead ones too", 4, () -> y.probate(7));
        Check.idle(y, "no fourth cat", -1, () -> y.probate(8));
        Check.idle(y, "no fourth cat", -2, () -> y.keeper(0, 8));
        CatLeases none = Check.told("room r;room s;");
        Check.idle(none, "without cats", 2, () -> none.probate(0));
        Check.idle(none, "without cats", -1, () -> none.keeper(1, 0));
        Check.idle(none, "without cats", -1, () -> none.probate(1));
    }

    /** "(it may be below 0)"; "GRIEF (n 0 .. 20); -1000 if it is dead, or one can't be" */
    private static void promise29() {
        CatLeases x = Check.told(FULL + "likes 20 - stayed;");
        Check.idle(x, "behind 0", 0, () -> x.grief(0, 0));
        Check.idle(x, "behind 20", 0, () -> x.grief(0, 20));
        x.quarter();
        Check.idle(x, "behind 19", 0, () -> x.grief(0, 19));
        Check.idle(x, "behind 20 the first one's are in probate", -1, () -> x.grief(0, 20));
        for (int n : new int[] {-1, 21, MIN, MAX}) Check.idle(x, "grief(0, " + n + ")", -1000, () -> x.grief(0, n));
        for (int cat : new int[] {-1, 6, 31, 32, MIN, MAX}) Check.idle(x, "grief(" + cat + ", 1)", -1000, () -> x.grief(cat, 1));
        CatLeases y = Check.told(THREE);
        y.quarter();
        for (int n = 0; n <= 20; n += 20) {
            int one = n;
            Check.idle(y, "it is dead", -1000, () -> y.grief(0, one));
        }
        Check.idle(y, "nobody is in hers", 0, () -> y.grief(2, 20));
        CatLeases all = Check.told("cat a wants 99;cat b wants 0 heir a;room p of b;room q of b;room r of b;tenant t hours 9 in p;tenant u hours 9 in q;tenant v hours 9 in r;");
        Check.idle(all, "all three would be out", 3, () -> all.grief(1, 1));
        Check.idle(all, "but not at once", 0, () -> all.grief(1, 0));
    }

    private static void bid(String name, CatLeases x, int tenant, int other, int room, int... due) {
        Check.due(name, due[0], x.bid(tenant, other, room));
        Check.due(name + ": about(13)", due.length - 1, x.about(13));
        for (int i = 1; i < due.length; i++) Check.due(name + ": lies(" + (i - 1) + ")", due[i], x.lies(i - 1));
        Check.due(name + ": behind", -2, x.lies(due.length - 1));
        Check.due(name + ": no act", 0, x.about(7));
    }

    private static CatLeases two(int wants, int hours, int others) {
        return Check.told("cat a wants " + wants + ";room r of a;room z;room s of a;tenant t hours " + hours + ";tenant u hours " + others + ";tenant v hours 1 in s;");
    }

    /** "each makes his HOURS 0 .. 5 more now (99 at most) ... if that is above 0 (of like ones the first one) ... behind 0, NONE: nothing" */
    private static void promise30() {
        bid("0 more", two(5, 6, 1), 0, 1, 0, 1, 0, 0);
        bid("a liking of 0 is not enough: 1 more", two(6, 6, 1), 0, 1, 0, 1, 1, 0);
        bid("5 more", two(10, 6, 1), 0, 1, 0, 1, 5, 0);
        bid("6 more can't be: neither has it", two(11, 6, 1), 0, 1, 0, 1, 0, 0);
        bid("the other one, 5 more", two(10, 1, 6), 0, 1, 0, 1, 0, 5);
        // Who is 5 ahead is as much liked at most, if the other one makes 5 more: then the first one has it, and not the other one.
        bid("5 ahead: like ones, the first one", two(5, 11, 6), 0, 1, 0, 1, 0, 0);
        bid("5 ahead as the other one: the first one catches up", two(5, 6, 11), 0, 1, 0, 0);
        bid("6 ahead as the other one", two(5, 5, 11), 0, 1, 0, 1, 0, 0);
        bid("4 ahead: outbid", two(5, 10, 6), 0, 1, 0, 0);
        bid("turned round: the first one is the call's", two(5, 6, 11), 1, 0, 0, 1, 0, 0);
        bid("98 and 1 are 99", two(98, 98, 0), 0, 1, 0, 1, 1, 0);
        bid("99 at most", two(99, 98, 0), 0, 1, 0, 1, 0, 0);
        bid("99 at most: u can't reach t", two(50, 99, 97), 0, 1, 0, 1, 0, 0);
        bid("99 at most: t reaches u by 2, and u has no more", two(50, 97, 99), 0, 1, 0, 1, 2, 0);
        CatLeases over = Check.told("cat a wants 0;room r of a;tenant t hours 97;tenant u hours 0;likes hours - 99;");
        bid("100 can't be told", over, 0, 1, 0, 1, 0, 0);
        CatLeases x = two(5, 6, 1);
        int[][] wrong = {{0, 0, 0}, {0, 2, 0}, {2, 0, 0}, {0, 1, 1}, {0, 1, 2}, {0, 1, 3}, {0, 1, -1}, {0, 1, MIN}, {0, 1, MAX}, {0, 3, 0},
            {3, 0, 0}, {-1, 0, 0}, {0, -1, 0}, {MIN, 0, 0}, {0, MAX, 0}, {-1, -1, 0}, {3, 3, 0}};
        for (int[] row : wrong) {
            x.letting();
            bid("none: nothing lies there", x, row[0], row[1], row[2], -1);
            bid("one", x, 0, 1, 0, 1, 0, 0);
            bid("none: nothing lies there", x, row[0], row[1], row[2], -1);
        }
        CatLeases y = two(5, 6, 6);
        y.letting();
        bid("0: nothing lies there", y, 0, 1, 0, 0);
        Check.due("hours are as they were", 6, y.tenant(0, 1));
    }

    /** "the ROOM that is empty, or his own ... (by moving now; in his own he stays; 99 QUARTERS at most count); of like ones the first" */
    private static void promise31() {
        CatLeases none = Check.told("cat a wants 0;room r of a;tenant t hours 1 in r;tenant u hours 1;");
        Check.idle(none, "no room is empty", -1, () -> none.haven(1, 0));
        Check.idle(none, "no room is empty", -1, () -> none.haven(1, 1));
        Check.idle(none, "his own", 0, () -> none.haven(0, 0));
        Check.idle(none, "his own", 99, () -> none.haven(0, 1));
        for (int n : new int[] {-1, 2, 7, MIN, MAX}) {
            Check.idle(none, "no such tenant " + n, -1, () -> none.haven(n, 0));
            Check.idle(none, "no such tenant " + n, -1, () -> none.haven(n, 1));
            Check.idle(none, "what " + n, -1, () -> none.haven(0, n));
        }
        CatLeases bare = Check.told("cat a wants 0;tenant t hours 1;");
        Check.idle(bare, "no rooms", -1, () -> bare.haven(0, 0));
        String told = "cat a wants 0;room r of a;room z;tenant t hours 1;";
        int[][] rows = {{0, 1, 1}, {97, 1, 98}, {98, 0, 99}, {99, 0, 99}, {200, 0, 99}};
        for (int[] row : rows) {
            CatLeases x = Check.told(told + "likes " + row[0] + " - stayed;");
            Check.idle(x, "99 at most count: " + row[0], row[1], () -> x.haven(0, 0));
            Check.idle(x, "99 at most count: " + row[0], 99, () -> x.haven(0, 1));
            x.move(0, 1);
            x.claim(1, 0);
            Check.idle(x, "like ones, the first: " + row[0], 0, () -> x.haven(0, 0));
            Check.idle(x, "how long: " + row[0], row[2], () -> x.haven(0, 1));
        }
        CatLeases stays = Check.told("cat a wants 0;room p of a;room q of a;tenant t hours 1 in p;likes stayed + quarter < 4 or stayed > 2;");
        stays.quarter();
        stays.quarter();
        // In p he stayed 2 by quarter 2, and 4 are not less than 4; elsewhere he begins anew, and lasts one quarter more.
        Check.idle(stays, "in his own he stays", 1, () -> stays.haven(0, 0));
        Check.idle(stays, "by moving he begins anew", 2, () -> stays.haven(0, 1));
    }

    /** "the most ROOMS she could keep (0 .. 8 ...)"; "NONE if she is dead, or not by any number, or there is none such" */
    private static void promise32() {
        String told = "cat a wants 0;cat b wants 0;room p of a;tenant t hours 1 in p;dies 100;";
        int[][] rows = {{0, -1}, {1, 0}, {2, 1}, {8, 7}, {9, 8}, {10, 8}};
        for (int[] row : rows) {
            CatLeases x = Check.told(told + "likes " + row[0] + " - rooms;");
            Check.idle(x, "below " + row[0], row[1], () -> x.crowd(0));
            Check.idle(x, "without tenants", 8, () -> x.crowd(1));
        }
        CatLeases x = Check.told(told + "likes rooms = 0;");
        Check.due("0 alone", 0, x.crowd(0));
        Check.due("8 alone", 8, Check.told(told + "likes rooms = 8;").crowd(0));
        Check.due("9 is not looked at", -1, Check.told(told + "likes rooms = 9;").crowd(0));
        for (int n : new int[] {-1, 2, 6, 31, 32, MIN, MAX}) Check.idle(x, "crowd(" + n + ")", -1, () -> x.crowd(n));
        x.quarter();
        Check.idle(x, "she is dead", -1, () -> x.crowd(0));
        Check.idle(x, "she is dead, without tenants", -1, () -> x.crowd(1));
    }

    /** "of like ones the first; NONE if none has a TENANT"; "whom no CAT would LIKE above 0 in any ROOM that is kept" */
    private static void promises33And34() {
        CatLeases all = Check.told(FULL);
        Check.idle(all, "the last one has two", 5, all::fondest);
        all.leave(6);
        Check.idle(all, "of like ones the first", 0, all::fondest);
        for (int t = 0; t < 6; t++) all.leave(t);
        Check.idle(all, "none has a tenant", -1, all::fondest);
        CatLeases low = Check.told("cat a wants 9;cat b wants 8;cat c wants 0;room p of a;room q of b;room r of c;tenant t hours 1 in p;tenant u hours 1 in q;");
        Check.idle(low, "likings below 0", 1, low::fondest);
        low.leave(1);
        Check.idle(low, "the only one who has a tenant", 0, low::fondest);
        CatLeases dead = Check.told(THREE);
        Check.idle(dead, "a likes him most", 0, dead::fondest);
        dead.quarter();
        Check.idle(dead, "a is dead, and u is out", -1, dead::fondest);
        // Each counts 9,999 at most, -9,999 at least: so two may be more than one that is liked above both together.
        String told = "cat a wants 0;cat b wants 1;room p of a;room q of a;room r of b;";
        Check.due("two that are cut", 0, Check.told(told + "tenant t hours 1 in p;tenant u hours 1 in q;tenant v hours 1 in r;likes 9999 + wants * 9999;").fondest());
        Check.due("two that are not", 1, Check.told(told + "tenant t hours 1 in p;tenant u hours 1 in q;tenant v hours 1 in r;likes 4999 + wants * 9999;").fondest());
        Check.due("likes of 4999 twice are less than 9999", 1, Check.told(told + "tenant t hours 1 in p;tenant u hours 1 in q;tenant v hours 1 in r;likes 4999 + wants * 5000;").fondest());
        Check.due("cut below", 1, Check.told(told + "tenant t hours 1 in p;tenant u hours 1 in q;tenant v hours 1 in r;likes 0 - 5000 - wants * 9999;").fondest());
        CatLeases x = Check.told("cat a wants 5;cat b wants 6;room p of a;room q of b;room z;tenant t hours 5;tenant u hours 6;tenant v hours 0 in p;tenant w hours 0 in z;");
        Check.idle(x, "0 is not above 0", 0b1101, x::nobodys);
        CatLeases unliked = Check.told(FULL + "likes 0;");
        Check.idle(unliked, "all", 127, unliked::nobodys);
        CatLeases none = Check.told(FULL + "likes 1;");
        Check.idle(none, "none", 0, none::nobodys);
        CatLeases bare = Check.told("cat a wants 0;room z;tenant t hours 9 in z;");
        Check.idle(bare, "no room is kept", 1, bare::nobodys);
    }

    /** "behind n QUARTERS (0 .. 60); NONE for another n"; "if WANTS of all were n (0 .. 99); NONE for another n"; "-1000000 if there is none such" */
    private static void promises35To37() {
        CatLeases x = Check.told(FULL + "likes 59 - stayed;dies 100;");
        Check.idle(x, "behind 0", 7, () -> x.housed(0));
        Check.idle(x, "behind 59", 7, () -> x.housed(59));
        Check.idle(x, "behind 60", 0, () -> x.housed(60));
        for (int n : new int[] {-1, 61, MIN, MAX}) Check.idle(x, "housed(" + n + ")", -1, () -> x.housed(n));
        CatLeases y = Check.told("cat a wants 50;cat b wants 50;room p of a;room q of b;room z;"
            + "tenant t hours 99 in p;tenant u hours 0 warm 1 in q;tenant v hours 0 in z;tenant w hours 0;");
        Check.idle(y, "if all wanted 0", 0, () -> y.law(0));
        Check.idle(y, "if all wanted 2", 0, () -> y.law(2));
        Check.idle(y, "if all wanted 3", 1, () -> y.law(3));
        Check.idle(y, "if all wanted 98", 1, () -> y.law(98));
        Check.idle(y, "if all wanted 99", 2, () -> y.law(99));
        for (int n : new int[] {-1, 100, MIN, MAX}) Check.idle(y, "law(" + n + ")", -1, () -> y.law(n));
        Check.idle(y, "hours less wants", 49, () -> y.purse(0));
        Check.idle(y, "below 0", -50, () -> y.purse(1));
        for (int n : new int[] {-1, 2, 6, MIN, MAX}) Check.idle(y, "purse(" + n + ")", -1000000, () -> y.purse(n));
        x.quarter();
        Check.idle(x, "of a dead one", 0, () -> x.purse(5));
        CatLeases most = Check.told("cat a wants 99;room a of a;room b of a;room c of a;room d of a;room e of a;room f of a;room g of a;"
            + "tenant a hours 0 in a;tenant b hours 0 in b;tenant c hours 0 in c;tenant d hours 0 in d;tenant e hours 0 in e;tenant f hours 0 in f;tenant g hours 0 in g;");
        Check.idle(most, "the least of all", -693, () -> most.purse(0));
    }

    /** "ODDS (n 0 .. 4) the upper part (0), the lower part (1), in lowest terms (0 of 1); NONE if she is dead, or one can't be" */
    private static void promise38() {
        int[][] rows = {{0, 1, 1}, {1, 96059601, 100000000}, {50, 1, 16}, {99, 1, 100000000}, {100, 0, 1}, {36, 65536, 390625}, {2, 5764801, 6250000}};
        for (int[] row : rows) {
            CatLeases x = Check.told("cat a wants 1;dies " + row[0] + ";");
            Check.idle(x, "upper by " + row[0], row[1], () -> x.odds(0, 4, 0));
            Check.idle(x, "lower by " + row[0], row[2], () -> x.odds(0, 4, 1));
            Check.idle(x, "behind 0", 1, () -> x.odds(0, 0, 0));
            Check.idle(x, "behind 0", 1, () -> x.odds(0, 0, 1));
        }
        CatLeases x = Check.told(THREE);
        for (int n : new int[] {-1, 5, MIN, MAX}) Check.idle(x, "behind " + n, -1, () -> x.odds(0, n, 0));
        for (int n : new int[] {-1, 2, MIN, MAX}) Check.idle(x, "part " + n, -1, () -> x.odds(0, 1, n));
        for (int n : new int[] {-1, 3, 6, 31, 32, MIN, MAX}) Check.idle(x, "no such cat " + n, -1, () -> x.odds(n, 1, 0));
        Check.idle(x, "69 of 100", 69, () -> x.odds(0, 1, 0));
        Check.idle(x, "whatever the seed is", 100, () -> x.odds(0, 1, 1));
        x.quarter();
        Check.idle(x, "she is dead", -1, () -> x.odds(0, 0, 0));
        Check.idle(x, "another lives", 69, () -> x.odds(2, 1, 0));
    }

    /** "The i-th number of what lies there; -2 if there is none such." */
    private static void promise39() {
        CatLeases x = Check.told(FULL);
        for (int i : new int[] {-1, 0, 1, 7, MIN, MAX}) Check.idle(x, "nothing lies there", -2, () -> x.lies(i));
        x.letting();
        Check.idle(x, "the first", 0, () -> x.lies(0));
        Check.idle(x, "the last", 6, () -> x.lies(6));
        for (int i : new int[] {-1, 7, 8, MIN, MAX}) Check.idle(x, "lies(" + i + ")", -2, () -> x.lies(i));
    }

    // ---- 40 to 45: what is seen ----

    /** "A SEEN (QUARTERS 0 .. 9): its number; NONE, doing nothing, if one can't be, there are 30, or no CATS." */
    private static void promise40() {
        CatLeases x = Check.told(FULL);
        for (int q : new int[] {-1, 10, MIN, MAX}) Check.idle(x, "quarters " + q, -1, () -> x.seen(q, 0, true));
        for (int t : new int[] {-1, 7, MIN, MAX}) Check.idle(x, "tenant " + t, -1, () -> x.seen(0, t, true));
        Check.due("quarters 0", 0, x.seen(0, 0, true));
        Check.due("quarters 9", 1, x.seen(9, 6, true));
        for (int i = 2; i < 30; i++) Check.due("number " + i, i, x.seen(9, 6, true));
        Check.idle(x, "there are 30", -1, () -> x.seen(0, 0, true));
        x.untell(0);
        Check.idle(x, "there are 30, though one is untold", -1, () -> x.seen(0, 0, true));
        CatLeases none = Check.told("room r;tenant t hours 1 in r;");
        Check.idle(none, "no cats", -1, () -> none.seen(0, 0, true));
        CatLeases bare = Check.told("cat a wants 1;");
        Check.idle(bare, "no tenants", -1, () -> bare.seen(0, 0, true));
        again(x, FULL);
        Check.due("the first of another mews", 0, x.seen(0, 0, true));
    }

    /** "It is UNTOLD: true; false if it is so already, or there is none such." */
    private static void promise41() {
        CatLeases x = Check.told(FULL);
        Check.idle(x, "none such", 0, () -> x.untell(0) ? 1 : 0);
        for (int i = 0; i < 30; i++) x.seen(1, 6, i < 29);
        for (int i : new int[] {-1, 30, 31, MIN, MAX}) Check.idle(x, "untell(" + i + ")", 0, () -> x.untell(i) ? 1 : 0);
        Check.due("none fits", 0, x.fits(0));
        Check.due("the last", true, x.untell(29));
        Check.due("4 of his 9 hours", 9, x.fits(0));
        Check.idle(x, "it is so already", 0, () -> x.untell(29) ? 1 : 0);
        x.later(1);
        Check.idle(x, "it is so already, later too", 0, () -> x.untell(29) ? 1 : 0);
        Check.due("the time of the first untelling counts", 9, x.fits(0));
        Check.due("the first", true, x.untell(0));
        Check.idle(x, "it is so already", 0, () -> x.untell(0) ? 1 : 0);
    }

    /** "So much later (0 .. 1000): the TIME; NONE, doing nothing, for another number, or if it would be above 100,000." */
    private static void promise42() {
        CatLeases x = new CatLeases();
        for (int by : new int[] {-1, 1001, MIN, MAX}) Check.idle(x, "later(" + by + ")", -1, () -> x.later(by));
        Check.idle(x, "later(0)", 0, () -> x.later(0));
        Check.due("later(1)", 1, x.later(1));
        Check.due("later(1000)", 1001, x.later(1000));
        for (int i = 2; i <= 99; i++) x.later(1000);
        Check.due("99,001", 99001, x.about(10));
        Check.idle(x, "100,001", -1, () -> x.later(1000));
        Check.due("100,000", 100000, x.later(999));
        Check.idle(x, "no more", -1, () -> x.later(1));
        Check.idle(x, "nothing more", 100000, () -> x.later(0));
        for (int by : new int[] {-1, 1001, MIN, MAX}) Check.idle(x, "later(" + by + ")", -1, () -> x.later(by));
    }

    private static void known(String name, CatLeases x, int k, int fits, int least, int most) {
        Check.idle(x, name + ": fits(" + k + ")", fits, () -> x.fits(k));
        Check.idle(x, name + ": the least", least, () -> x.sure(0, k));
        Check.idle(x, name + ": the greatest", most, () -> x.sure(1, k));
    }

    /** "TOLD at k or before, not UNTOLD at k or before"; "(0 without CATS)"; "NONE if none FITS, or for another what" */
    private static void promises43And44() {
        known("without cats", Check.told("room r;tenant t hours 1 in r;"), 0, 0, -1, -1);
        known("without tenants", Check.told("cat a wants 1;"), 0, 100, 0, 99);
        String told = "cat a wants 7;cat b wants 55;room p of a;room q of b;tenant t hours 50 in q;tenant u hours 5 in p;";
        CatLeases x = Check.told(told);
        x.later(5);
        int first = x.seen(1, 0, true);
        for (int k : new int[] {MIN, -1, 0, 4}) known("told later", x, k, 100, 0, 99);
        for (int k : new int[] {5, 6, MAX}) known("told at k, or before", x, k, 50, 0, 49);
        x.later(5);
        x.untell(first);
        for (int k : new int[] {5, 9}) known("untold later", x, k, 50, 0, 49);
        for (int k : new int[] {4, 10, 11, MAX}) known("untold at k, or before", x, k, 100, 0, 99);
        int other = x.seen(9, 0, false);
        known("told at once", x, 10, 50, 50, 99);
        x.untell(other);
        for (int k : new int[] {9, 10, 11}) known("untold at the same time", x, k, k == 9 ? 50 : 100, 0, k == 9 ? 49 : 99);
        x.seen(1, 1, true);
        known("another cat's, and she does not like him", x, 10, 0, -1, -1);
        for (int what : new int[] {-1, 2, MIN, MAX}) Check.idle(x, "sure(" + what + ")", -1, () -> x.sure(what, 9));
        // The told wants of the last cat do not count, all the others' do.
        for (int hours = 0; hours <= 99; hours += 33) {
            CatLeases y = Check.told("cat b wants 55;room q of b;tenant t hours " + hours + " in q;");
            y.seen(0, 0, true);
            known("at first he is in it", y, 0, 100, 0, 99);
            y.seen(1, 0, true);
            known("liked by less than " + hours, y, 0, hours, hours == 0 ? -1 : 0, hours - 1);
        }
        CatLeases z = Check.told("cat b wants 55;room q of b;tenant t hours 99 in q;");
        z.seen(9, 0, false);
        known("99 alone", z, 0, 1, 99, 99);
        z.seen(0, 0, false);
        known("at first he was in it", z, 0, 0, -1, -1);
    }

    /** "ASK (QUARTERS 0 .. 9) ...; NONE if none FITS, there are no TENANTS, or one can't be." */
    private static void promise45() {
        CatLeases x = Check.told("cat b wants 55;room p of b;room q of b;room r of b;tenant t hours 30 in p;tenant u hours 50 in q;tenant v hours 50 in r;likes hours - wants - stayed;");
        for (int what = 0; what <= 1; what++) {
            int w = what;
            for (int q : new int[] {-1, 10, MIN, MAX}) Check.idle(x, "quarters " + q, -1, () -> x.ask(q, w, 0));
        }
        for (int what : new int[] {-1, 2, MIN, MAX}) Check.idle(x, "what " + what, -1, () -> x.ask(1, what, 0));
        Check.idle(x, "behind 0 all are in: the first", 0, () -> x.ask(0, 0, 0));
        Check.idle(x, "behind 0 nothing is learned", 100, () -> x.ask(0, 1, 0));
        Check.idle(x, "behind 1: 30, 50, 50", 1, () -> x.ask(1, 0, 0));
        Check.idle(x, "behind 1: 50 are left", 50, () -> x.ask(1, 1, 0));
        Check.idle(x, "behind 9: 22, 42, 42", 1, () -> x.ask(9, 0, 0));
        Check.idle(x, "behind 9: 58 are left", 58, () -> x.ask(9, 1, 0));
        x.later(1);
        x.seen(1, 1, true);
        Check.idle(x, "of 50: 30", 0, () -> x.ask(1, 0, 1));
        Check.idle(x, "of 50: 30", 30, () -> x.ask(1, 1, 1));
        Check.idle(x, "as known at 0", 1, () -> x.ask(1, 0, 0));
        Check.idle(x, "as known ahead of all", 1, () -> x.ask(1, 0, MIN));
        Check.idle(x, "as known behind all", 0, () -> x.ask(1, 0, MAX));
        x.seen(1, 2, false);
        Check.idle(x, "none fits", -1, () -> x.ask(1, 0, 1));
        Check.idle(x, "none fits", -1, () -> x.ask(1, 1, 1));
        CatLeases bare = Check.told("cat a wants 1;room r of a;");
        Check.idle(bare, "no tenants", -1, () -> bare.ask(1, 0, 0));
        Check.idle(bare, "no tenants", -1, () -> bare.ask(1, 1, 0));
        CatLeases one = Check.told("cat b wants 55;tenant t hours 30;");
        Check.idle(one, "one who is out", 0, () -> one.ask(9, 0, 0));
        Check.idle(one, "nothing is learned", 100, () -> one.ask(9, 1, 0));
    }

    // ---- 46 to 48: images, and all else ----

    /** "kept in a BOX 0 .. 2: the quarter; NONE if there is none such"; "(no ACTS are kept then): the quarter; NONE, doing nothing, if nothing was" */
    private static void promises46And47() {
        CatLeases x = Check.told(THREE);
        x.quarter();
        x.spend(2, 11);
        x.undo();
        for (int box : new int[] {-1, 3, 4, MIN, MAX}) {
            Check.idle(x, "image(" + box + ")", -1, () -> x.image(box));
            Check.idle(x, "back(" + box + ")", -1, () -> x.back(box));
        }
        for (int box = 0; box <= 2; box++) {
            int one = box;
            Check.idle(x, "nothing was kept", -1, () -> x.back(one));
        }
        Check.due("acts stay", 1, x.about(7));
        Check.due("redo stays", 1, x.about(8));
        for (int box = 0; box <= 2; box++) {
            int one = box;
            Check.idle(x, "an image changes nothing else", 1 + box, () -> x.image(one));
            x.quarter();
            x.move(2, 3);
            x.leave(2);
            x.spend(0, 50 + box);
            x.calm(1, box);
        }
        for (int box = 2; box >= 0; box--) {
            Check.due("back(" + box + ")", 1 + box, x.back(box));
            Check.due("the quarter", 1 + box, x.about(5));
            Check.due("how long he stayed", 1 + box, x.tenant(0, 4));
            Check.due("hours", box == 0 ? 8 : 49 + box, x.tenant(0, 1));
            Check.due("fidgets", box == 0 ? 4 : box - 1, x.tenant(1, 3));
            Check.due("no acts", 0, x.about(7) + x.about(8));
        }
        x.spend(0, 99);
        Check.due("the box is as it was", 1, x.back(0));
        Check.due("hours", 8, x.tenant(0, 1));
        String one = Check.all(x);
        x.quarter();
        x.back(0);
        Check.due("all is as it was kept", one, Check.all(x));
        CatLeases first = Check.told(FULL);
        Check.due("quarter 0 is kept, too", 0, first.image(1));
        first.quarter();
        Check.due("back to it", 0, first.back(1));
    }

    /** "NONE for another what." */
    private static void promise48() {
        CatLeases x = Check.told(FULL + "likes 1" + "+1".repeat(29) + ";draw 999;");
        int[] want = {7, 6, 8, 63, 0, 0, 999, 0, 0, 0, 0, 0, 30, 0};
        for (int what = 0; what <= 13; what++) {
            int w = what;
            Check.idle(x, "about(" + what + ")", want[what], () -> x.about(w));
        }
        for (int what : new int[] {-1, 14, 15, MIN, MAX}) Check.idle(x, "about(" + what + ")", -1, () -> x.about(what));
    }
}
