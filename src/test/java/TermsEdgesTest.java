/** The edges that "Terms" names, sentence by sentence: what is just small enough, just too large, empty, full, at one place. */
public final class TermsEdgesTest {
    private static final String[] OWN_WORDS = {"cat", "wants", "heir", "room", "of", "tenant", "hours", "warm", "fidgets", "in",
        "likes", "dies", "draw", "or", "and", "not", "stayed", "rooms", "quarter"};

    public static void main(String[] args) {
        textLength();
        optionalParts();
        tokenLengths();
        blanksAndSigns();
        noNames();
        names();
        cats();
        rooms();
        tenants();
        onceEach();
        unitsInOne();
        unitsWithin();
        firstByPlace();
        leastAtOnePlace();
        theEnd();
        numberingBySort();
        atFirst();
        likingByTerms();
        arithmetic();
        thrownOut();
        stayed();
        draws();
        heirs();
        actsKept();
        whatLiesAhead();
        Check.end("TermsEdgesTest");
    }

    // ---- the text ----

    /** "A MEWS is a text of at most 1,600 bytes (empty at first)" */
    private static void textLength() {
        Check.due("an empty text", 0, new CatLeases().mews());
        String line = "tenant t hours 1;";
        CatLeases full = new CatLeases();
        Check.put(full, " ".repeat(1600 - line.length()) + line);
        Check.due("1600 bytes", 1600, full.about(11));
        Check.due("1600 bytes are a mews, the last one counts", 1, full.mews());
        Check.fault(" ".repeat(1599) + "x", 2, 1599);
        Check.fault("likes 1" + " ".repeat(1593), 2, 1600);
        Check.fault("room" + " ".repeat(1595) + "r", 2, 1600);
        Check.fault("room " + "a".repeat(1595), 1, 5);
        Check.fault("draw " + "0".repeat(1595), 1, 5);
        Check.noFault("\n".repeat(1600));
        Check.noFault("cat a wants 5;" + " ".repeat(1586));
    }

    /** "cat NAME wants N [heir NAME] ; | room NAME [of NAME] ; | tenant NAME hours N [warm N] [fidgets N] [in NAME] ;" */
    private static void optionalParts() {
        String ahead = "cat c wants 1;room r of c;";
        String[] warm = {"", " warm 4"};
        String[] fidgets = {"", " fidgets 5"};
        String[] in = {"", " in r"};
        for (int i = 0; i < 8; i++) {
            CatLeases x = Check.told(ahead + "tenant t hours 7" + warm[i & 1] + fidgets[i >> 1 & 1] + in[i >> 2] + ";");
            Check.due("hours", 7, x.tenant(0, 1));
            Check.due("warm, 0 if not told", 4 * (i & 1), x.tenant(0, 2));
            Check.due("fidgets, 0 if not told", 5 * (i >> 1 & 1), x.tenant(0, 3));
            Check.due("in, else out", (i >> 2) - 1, x.tenant(0, 0));
        }
        Check.fault(ahead + "tenant t hours 7 in r fidgets 5;", 2, 48);
        Check.fault(ahead + "tenant t hours 7 fidgets 5 warm 4;", 2, 53);
        Check.fault(ahead + "tenant t warm 4 hours 7;", 2, 35);
        Check.fault("cat d heir c wants 1;", 2, 6);
        Check.fault(ahead + "cat d wants 1 heir c heir c;", 2, 47);
        Check.fault(ahead + "room s of c of c;", 2, 38);
        Check.fault("dies;", 2, 4);
        Check.fault("draw;", 2, 4);
        Check.fault("dies 1 2;", 2, 7);
        Check.fault("draw x;", 2, 5);
    }

    // ---- tokens ----

    /** "words (a .. z, 8 at most), N (1 to 4 digits) ... each is as long as can be; no letter directly behind an N" */
    private static void tokenLengths() {
        Check.noFault("room abcdefgh;");
        Check.fault("room abcdefghi;", 1, 5);
        Check.noFault("room a;room z;");
        Check.fault("room `;", 1, 5);
        Check.fault("room {;", 1, 5);
        Check.fault("room a{;", 1, 6);
        Check.fault("room Z;", 1, 5);
        Check.noFault("draw 0;");
        Check.noFault("draw 0999;");
        Check.fault("draw 00999;", 1, 5);
        Check.noFault("likes 9999;");
        Check.fault("likes 99999;", 1, 6);
        Check.fault("draw :;", 1, 5);
        Check.fault("draw /;", 2, 5);
        Check.fault("draw 1:;", 1, 6);
        Check.fault("draw 1a;", 1, 5);
        Check.fault("draw 1z;", 1, 5);
        Check.fault("draw 1234a;", 1, 5);
        Check.fault("draw 1A;", 1, 6);
        Check.fault("likes 1and 1;", 1, 6);
        Check.noFault("likes 1 and 1;");
        Check.noFault("likes(1)and(1);");
        // As long as can be: no word ends where another letter follows, no number where another digit does.
        Check.fault("rooma;", 2, 0);
        Check.fault("likes notnot 1;", 2, 6);
        Check.fault("likes hourswants;", 1, 6);
        Check.fault("likes warmrooms;", 1, 6);
        Check.fault("likes notwarm;", 2, 6);
        Check.fault("room roomroom;room room;", 2, 19);
        Check.due("a word of words", 0, Check.told("room rooma;room quarters;room incat;").about(0));
        Check.fault("draw 12 3;", 2, 8);
    }

    /** "signs ; ( ) < > = + - * / %; blanks (32, 10) part them or not" */
    private static void blanksAndSigns() {
        Check.noFault("likes 1<1;");
        Check.noFault("likes ( 1 ) > ( 1 ) ;");
        Check.noFault("likes 1\n=\n1\n;");
        Check.noFault("likes 1+1-1*1/1%1;");
        Check.noFault("room\nr;\nroom s;\n\n ");
        for (int sign = 0; sign < 256; sign++) {
            boolean blank = sign == 32 || sign == 10;
            boolean known = blank || sign >= 'a' && sign <= 'z' || sign >= '0' && sign <= '9' || ";()<>=+-*/%".indexOf(sign) >= 0;
            String text = "room r;" + (char) sign;
            if (blank) Check.noFault(text);
            else Check.fault(text, known ? 2 : 1, 7);
        }
        Check.fault("likes 1 <= 1;", 2, 9);
        Check.fault("likes 1 == 1;", 2, 9);
        Check.fault("likes 1 <> 1;", 2, 9);
        Check.fault("likes 1 + + 1;", 2, 10);
    }

    /** "Words that stand for themselves here are no NAMES." */
    private static void noNames() {
        String ahead = "cat c wants 1;room r;";
        for (String word : OWN_WORDS) {
            Check.fault("cat " + word + " wants 1;", 2, 4);
            Check.fault("room " + word + ";", 2, 5);
            Check.fault("tenant " + word + " hours 1;", 2, 7);
            Check.fault(ahead + "cat d wants 1 heir " + word + ";", 2, 40);
            Check.fault(ahead + "room s of " + word + ";", 2, 31);
            Check.fault(ahead + "tenant t hours 1 in " + word + ";", 2, 41);
        }
        for (String name : new String[] {"one", "both", "e", "sum", "term", "unit", "line", "mews", "name", "n", "cats", "tenants", "hour", "heirs"}) {
            Check.noFault("cat " + name + " wants 1;room " + name + " of " + name + ";tenant " + name + " hours 1 in " + name + ";");
        }
    }

    /** "3 a NAME told already (of its sort)": the whole NAME, and nothing but it. */
    private static void names() {
        for (char c = 'a'; c <= 'z'; c++) {
            Check.noFault("room " + c + ";room " + c + c + ";room " + (c + "").repeat(7) + ";room " + (c + "").repeat(8) + ";");
            Check.fault("room " + c + ";room " + c + ";", 3, 12);
            Check.fault("room " + (c + "").repeat(8) + ";room " + (c + "").repeat(8) + ";", 3, 19);
            Check.noFault("room " + c + "of;room of" + c + ";room " + c + "cat;room " + c + "tenant;");
            Check.fault("cat " + c + " wants 1;room r of " + c + c + ";", 5, 24);
        }
        String name = "mmmmmmmm";
        for (int i = 0; i < 8; i++) {
            for (char c : new char[] {'a', 'l', 'n', 'z'}) {
                Check.noFault("room " + name + ";room " + name.substring(0, i) + c + name.substring(i + 1) + ";");
            }
        }
        Check.noFault("room ab;room ba;room aab;room aba;room baa;");
        CatLeases x = Check.told("cat aa wants 1;cat a wants 2;cat ab wants 3 heir a;cat b wants 4 heir aa;");
        Check.due("heir a", 1, x.cat(2, 2));
        Check.due("heir aa", 0, x.cat(3, 2));
    }

    // ---- limits of a sort ----

    private static String letters(int i) {
        return "" + (char) ('a' + i);
    }

    private static String many(String front, String behind, int count) {
        StringBuilder s = new StringBuilder();
        for (int i = 0; i < count; i++) s.append(front).append(letters(i)).append(behind);
        return s.toString();
    }

    /** "At most 6 CATS (wants 0 .. 99; heir: a CAT told ahead)" */
    private static void cats() {
        String six = many("cat ", " wants 1;", 6);
        Check.due("6 cats", 6, Check.told(six).about(1));
        Check.due("all live", 63, Check.told(six).about(3));
        Check.fault(six + "cat g wants 1;", 2, six.length());
        Check.fault(six + "room r;\n cat g wants 100;", 2, six.length() + 9);
        Check.due("wants 0", 0, Check.told("cat a wants 0;").cat(0, 1));
        Check.due("wants 99", 99, Check.told("cat a wants 99;").cat(0, 1));
        Check.fault("cat a wants 100;", 4, 12);
        Check.fault("cat a wants 9999;", 4, 12);
        Check.due("no heir", -1, Check.told("cat a wants 1;").cat(0, 2));
        Check.due("an heir told ahead", 0, Check.told("cat a wants 1;cat b wants 1 heir a;").cat(1, 2));
        Check.due("an heir told just ahead", 4, Check.told(many("cat ", " wants 1;", 5) + "cat f wants 1 heir e;").cat(5, 2));
        Check.fault("cat a wants 1 heir a;", 5, 19);
        Check.fault("cat a wants 1 heir b;cat b wants 1;", 5, 19);
        Check.fault("room a;tenant a hours 1;cat b wants 1 heir a;", 5, 43);
        Check.fault("cat a wants 1;cat a wants 1;", 3, 18);
        Check.fault(many("cat ", " wants 1;", 5) + "cat a wants 1;", 3, 74);
    }

    /** "8 ROOMS (of a CAT told ahead: it keeps it; else in PROBATE)" */
    private static void rooms() {
        String eight = many("room ", ";", 8);
        Check.due("8 rooms", 8, Check.told(eight).about(2));
        Check.fault(eight + "room i;", 2, eight.length());
        Check.fault(eight + "draw 1;room a;", 2, eight.length() + 7);
        Check.due("else in probate", -1, Check.told("cat c wants 1;room r;").room(0, 0));
        Check.due("it keeps it", 0, Check.told("cat c wants 1;room r of c;").room(0, 0));
        CatLeases all = Check.told("cat c wants 1;" + many("room ", " of c;", 8));
        Check.due("one keeps all", 255, all.cat(0, 3));
        Check.due("rooms of hers", 8, Check.told("cat c wants 1;" + many("room ", " of c;", 8) + "tenant t hours 1;likes rooms;").liking(0, 7));
        Check.fault("room r of c;cat c wants 1;", 5, 10);
        Check.fault("room r;room s of r;", 5, 17);
        Check.fault("room r;room r;", 3, 12);
        Check.fault(many("room ", ";", 7) + "room g;", 3, 54);
    }

    /** "7 TENANTS (hours 0 .. 99; warm 0 .. 9 ...; fidgets 0 .. 9 ...; in a ROOM told ahead where nobody is told; else out)" */
    private static void tenants() {
        String seven = many("tenant ", " hours 1;", 7);
        Check.due("7 tenants", 7, Check.told(seven).about(0));
        Check.due("all are out", 127, Check.told(seven).about(4));
        Check.fault(seven + "tenant h hours 1;", 2, seven.length());
        Check.fault(seven + " tenant", 2, seven.length() + 1);
        Check.due("hours 0", 0, Check.told("tenant t hours 0;").tenant(0, 1));
        Check.due("hours 99", 99, Check.told("tenant t hours 99;").tenant(0, 1));
        Check.fault("tenant t hours 100;", 4, 15);
        Check.due("warm 9", 9, Check.told("tenant t hours 1 warm 9;").tenant(0, 2));
        Check.due("warm 0", 0, Check.told("tenant t hours 1 warm 0;").tenant(0, 2));
        Check.fault("tenant t hours 1 warm 10;", 4, 22);
        Check.due("fidgets 9", 9, Check.told("tenant t hours 1 fidgets 9;").tenant(0, 3));
        Check.due("fidgets 0", 0, Check.told("tenant t hours 1 fidgets 0;").tenant(0, 3));
        Check.fault("tenant t hours 1 fidgets 10;", 4, 25);
        Check.fault("tenant t hours 1 in r;room r;", 5, 20);
        Check.fault("cat r wants 1;tenant r hours 1;tenant t hours 1 in r;", 5, 51);
        Check.fault("room r;tenant t hours 1 in r;tenant u hours 1 in r;", 3, 49);
        Check.noFault("room r;room s;tenant t hours 1 in r;tenant u hours 1 in s;");
        Check.fault("tenant t hours 1;tenant t hours 1;", 3, 24);
        CatLeases all = Check.told(many("room ", ";", 8) + "tenant a hours 1 in h;tenant b hours 1 in a;");
        Check.due("in the last room", 7, all.tenant(0, 0));
        Check.due("in the first room", 0, all.tenant(1, 0));
    }

    /** "likes, dies (0 .. 100 of 100; 0), draw (0 .. 999; 0) once each" */
    private static void onceEach() {
        Check.fault("likes 1;likes 1;", 2, 8);
        Check.fault("dies 1;room r;dies 2;", 2, 14);
        Check.fault("draw 1;\ndraw 1;", 2, 8);
        Check.noFault("dies 0;draw 0;likes 0;");
        Check.noFault("dies 100;draw 999;likes 9999;");
        Check.fault("dies 101;", 4, 5);
        Check.fault("draw 1000;", 4, 5);
        Check.due("draw is 0 if not told", 0, Check.told("cat a wants 1;").about(6));
        Check.due("draw 999", 999, Check.told("draw 999;").about(6));
        CatLeases none = Check.told("cat a wants 1;");
        none.quarter();
        Check.due("dies is 0 if not told", 1, none.about(3));
        CatLeases told = Check.told("cat a wants 1;dies 0;draw 999;");
        // 999 * 137 + 71 ends in 934; no rest is below 0.
        told.quarter();
        Check.due("dies 0", 1, told.about(3));
        Check.due("the seed", 934, told.about(6));
        // 17 * 137 + 71 is 2400: the least rest.
        CatLeases one = Check.told("cat a wants 1;dies 1;draw 17;");
        one.quarter();
        Check.due("a rest of 0 is less than 1", 0, one.about(3));
        // 44 * 137 + 71 is 6099: the greatest rest.
        CatLeases most = Check.told("cat a wants 1;dies 99;draw 44;");
        most.quarter();
        Check.due("a rest of 99 is not less than 99", 1, most.about(3));
        CatLeases sure = Check.told("cat a wants 1;dies 100;draw 44;");
        sure.quarter();
        Check.due("a rest of 99 is less than 100", 0, sure.about(3));
    }

    /** "60 units in all, 30 in one e" */
    private static void unitsInOne() {
        String thirty = "1" + "+1".repeat(29);
        CatLeases x = Check.told("cat a wants 0;room r of a;tenant t hours 1;likes " + thirty + ";");
        Check.due("30 units", 30, x.about(12));
        Check.due("all of them count", 30, x.liking(0, 0));
        for (String join : new String[] {" or ", " and ", "-", "*", "/", "%"}) {
            String formula = "1" + (join + "1").repeat(29);
            Check.noFault("likes " + formula + ";");
            Check.fault("likes " + formula + join + "1;", 2, 6 + formula.length() + join.length());
            Check.fault("likes " + formula + join + "hours;", 2, 6 + formula.length() + join.length());
            Check.fault("likes " + formula + join + "(1);", 2, 6 + formula.length() + join.length());
        }
        String related = "1" + "+1".repeat(28);
        Check.noFault("likes " + related + "<1;");
        Check.fault("likes " + related + "<1+1;", 2, 6 + related.length() + 3);
        Check.fault("likes " + thirty + "<1;", 2, 6 + thirty.length() + 1);
        Check.due("one unit", 1, Check.told("likes 7;").about(12));
        Check.due("not is no unit", 1, Check.told("likes not not 7;").about(12));
        Check.due("( e ) is one, and what is in it", 4, Check.told("likes (1 + (2));").about(12));
        Check.due("none if not told", 0, Check.told("room r;").about(12));
        Check.due("none of the one before", 0, again("likes 1+1;", "room r;").about(12));
        Check.noFault(thirtyAfterFault());
    }

    private static CatLeases again(String first, String second) {
        CatLeases x = Check.told(first);
        Check.put(x, second);
        x.mews();
        return x;
    }

    /** Units of a text that was refused do not count in the next. */
    private static String thirtyAfterFault() {
        String text = "likes 1" + "+1".repeat(29) + ";";
        CatLeases x = new CatLeases();
        Check.put(x, text + "x");
        Check.due("a fault behind 30 units", -1, x.mews());
        x.end(text.length());
        Check.due("30 units again", 0, x.mews());
        Check.due("30 units again", 30, x.about(12));
        return text;
    }

    /** "(a unit ( e ), or a one behind not, within 6 others at most)"; "what is within 7 others: at its first TOKEN, or the not" */
    private static void unitsWithin() {
        for (int parentheses = 0; parentheses <= 7; parentheses++) {
            String front = "(".repeat(parentheses) + "not ".repeat(7 - parentheses);
            String behind = ")".repeat(parentheses);
            Check.noFault("likes " + front + "1" + behind + ";");
            Check.noFault("likes " + front + "hours + 1" + behind + ";");
            Check.fault("likes " + front + "(1)" + behind + ";", 2, 6 + front.length());
            Check.fault("likes " + front + "not 1" + behind + ";", 2, 6 + front.length());
            Check.fault("likes " + front + "1 + (1)" + behind + ";", 2, 6 + front.length() + 4);
        }
        Check.noFault("likes not (not (not (not 1)));");
        Check.fault("likes not (not (not (not (1))));", 2, 25);
        // What stands beside is not around: each begins anew.
        Check.noFault("likes (((((((1))))))) + (((((((1)))))));");
        Check.noFault("likes not not not not not not not 1 and not not not not not not not 1;");
        Check.noFault("likes (not not not not not not 1 or (((((1))))));");
        // A not's one ends at and, or: what is behind them is not within it.
        Check.noFault("likes not 1 and (((((((1)))))));");
        Check.fault("likes not (1 and (((((((1))))))));", 2, 22);
    }

    // ---- faults ----

    /** "FAULTS, the first by its place" */
    private static void firstByPlace() {
        Check.fault("cat a wants 100;cat A", 4, 12);
        Check.fault("cat a wants 1 heir b; ? ", 5, 19);
        Check.fault("room r;room r;room 7;", 3, 12);
        Check.fault("? cat", 1, 0);
        Check.fault("room r of c ?", 5, 10);
        Check.fault("cat a wants 1 ? heir b;", 1, 14);
        Check.fault("cat ? wants 100;", 1, 4);
        Check.fault("room r;tenant t hours 100 in s;", 4, 22);
        Check.fault("tenant t hours 1 warm 10 fidgets 10;", 4, 22);
        Check.fault("likes (1 + ;dies 101;", 2, 11);
    }

    /** "at one place the least" */
    private static void leastAtOnePlace() {
        Check.fault("cat a wants 10000;", 1, 12);
        Check.fault("cat a wants 100a;", 1, 12);
        Check.fault("cat a wants 1 heir abcdefghi;", 1, 19);
        Check.fault("abcdefghi", 1, 0);
        Check.fault("cat a 100;", 2, 6);
        Check.fault("cat a wants 1 100;", 2, 14);
        Check.fault("cat a wants heir;", 2, 12);
        Check.fault("cat a wants 1;cat wants wants 1;", 2, 18);
        Check.fault("cat a wants 1 heir 100;", 2, 19);
        Check.fault(many("cat ", " wants 1;", 6) + "cat a wants 100 heir z;", 2, 84);
        Check.fault("draw 1;draw 1000;", 2, 7);
        Check.fault("room r;tenant t hours 1 in r;tenant t hours 1 in r;", 3, 36);
    }

    /** "(bytes from 0; the end: the text's length)" */
    private static void theEnd() {
        String text = "cat a wants 1 ; cat b wants 1 heir a ; room r of a ; tenant t hours 1 warm 1 fidgets 1 in r ; "
            + "likes 1 or not ( 1 + 1 ) * 2 = 3 and 4 ; dies 1 ; draw 1 ;";
        Check.noFault(text);
        for (int length = text.indexOf(' '); length > 0; length = text.indexOf(' ', length + 1)) {
            String front = text.substring(0, length);
            if (front.endsWith(";")) Check.noFault(front);
            else Check.fault(front, 2, length);
        }
        Check.fault("room r", 2, 6);
        Check.fault("room r ", 2, 7);
        Check.fault("room r\n\n", 2, 8);
    }

    /** "numbered as told, each sort by itself" */
    private static void numberingBySort() {
        CatLeases x = Check.told("tenant a hours 1;room a;cat a wants 2;tenant b hours 3 in a;cat b wants 4 heir a;room b of b;tenant c hours 5 in b;");
        Check.due("tenants", 3, x.about(0));
        for (int t = 0; t < 3; t++) Check.due("hours", 1 + 2 * t, x.tenant(t, 1));
        for (int t = 0; t < 3; t++) Check.due("places", t - 1, x.tenant(t, 0));
        for (int c = 0; c < 2; c++) Check.due("wants", 2 + 2 * c, x.cat(c, 1));
        Check.due("room 0", -1, x.room(0, 0));
        Check.due("room 1", 1, x.room(1, 0));
    }

    // ---- ==== 2 ----

    /** "A CAT lives (at first) ... he STAYED there for so many quarters (0 at first) ... quarter (0 at first)" */
    private static void atFirst() {
        CatLeases x = Check.told("cat a wants 7;room r of a;tenant t hours 3 warm 2 fidgets 1 in r;");
        Check.due("lives", 1, x.cat(0, 0));
        Check.due("stayed", 0, x.tenant(0, 4));
        Check.due("quarter", 0, x.about(5));
        Check.due("likes if not told: 3 - 7 + 2 * 3 - 1", 1, x.liking(0, 0));
        CatLeases least = Check.told("cat a wants 99;room r of a;tenant t hours 0 fidgets 9 in r;");
        Check.due("the least that is not told", -108, least.liking(0, 0));
        CatLeases most = Check.told("cat a wants 0;room r of a;tenant t hours 99 warm 9 in r;");
        Check.due("the most that is not told", 126, most.liking(0, 0));
    }

    /** "stayed (how long he STAYED, if he is in that ROOM, else 0), rooms (how many that CAT keeps), quarter" */
    private static void likingByTerms() {
        String told = "cat a wants 1;cat b wants 2;room p of a;room q of a;room r of b;room z;tenant t hours 1 in p;tenant u hours 1;";
        CatLeases x = Check.told(told + "likes 1 + stayed;");
        x.quarter();
        x.quarter();
        Check.due("in that room", 3, x.liking(0, 0));
        Check.due("another room of the same cat", 1, x.liking(0, 1));
        Check.due("out", 1, x.liking(1, 1));
        Check.due("where another one is", 1, x.liking(1, 0));
        CatLeases y = Check.told(told + "likes rooms;");
        Check.due("two", 2, y.liking(1, 0));
        Check.due("one", 1, y.liking(1, 2));
        y.claim(3, 1);
        Check.due("one more", 2, y.liking(1, 2));
        y.undo();
        Check.due("one less", 1, y.liking(1, 2));
        CatLeases z = Check.told(told + "likes quarter;");
        Check.due("quarter 0", 0, z.liking(0, 0));
        Check.due("thrown out by 0", 1, z.quarter());
        Check.due("quarter 1", 1, z.liking(0, 0));
    }

    /** "ints, wrapping; / cut, % its rest, both by 0: 0; relations, and, or, not are 1 or 0, of what is not 0" */
    private static void arithmetic() {
        String most = "(8192 * 8192 * 32 - 1)";
        String least = "(0 - 8192 * 8192 * 32)";
        Check.formula(most, Integer.MAX_VALUE);
        Check.formula(most + " + 1", Integer.MIN_VALUE);
        Check.formula(least + " - 1", Integer.MAX_VALUE);
        Check.formula(least, Integer.MIN_VALUE);
        Check.formula("0 - " + least, Integer.MIN_VALUE);
        Check.formula(most + " * 2", -2);
        Check.formula(least + " * 2", 0);
        Check.formula(least + " * (0 - 1)", Integer.MIN_VALUE);
        Check.formula(least + " / (0 - 1)", Integer.MIN_VALUE);
        Check.formula(least + " % (0 - 1)", 0);
        Check.formula(least + " < " + most, 1);
        Check.formula(most + " < " + least, 0);
        Check.formula(least + " > " + most, 0);
        Check.formula(least + " = " + least, 1);
        Check.formula("5 / 0", 0);
        Check.formula("5 % 0", 0);
        Check.formula("0 / 0", 0);
        Check.formula("(0 - 5) / 0", 0);
        Check.formula("(0 - 5) % 0", 0);
        Check.formula("7 / 2", 3);
        Check.formula("(0 - 7) / 2", -3);
        Check.formula("7 / (0 - 2)", -3);
        Check.formula("(0 - 7) / (0 - 2)", 3);
        Check.formula("7 % (0 - 2)", 1);
        Check.formula("(0 - 7) % 2", -1);
        Check.formula("(0 - 7) % (0 - 2)", -1);
        Check.formula("1 / 2", 0);
        Check.formula("(0 - 1) / 2", 0);
        Check.formula("not (0 - 1)", 0);
        Check.formula("(0 - 1) and 2", 1);
        Check.formula("(0 - 1) or 0", 1);
        Check.formula("0 or (0 - 1)", 1);
        Check.formula("0 and (0 - 1)", 0);
        Check.formula("(5 and 7) + (5 or 7) + (5 = 5)", 3);
        Check.formula("2 * 3 % 4 / 1", 2);
        Check.formula("not 1 < 2", 0);
        Check.formula("not 1 - 1", 1);
        Check.formula("1 or 1 and 0", 1);
        Check.formula("0 and 1 or 1", 1);
        Check.formula("0 and (1 or 1)", 0);
    }

    /** "each TENANT in a ROOM that is kept whose LIKING is 0 or below is THROWN OUT, all by what is so ahead of this" */
    private static void thrownOut() {
        String told = "cat a wants 5;room p of a;room q of a;room r of a;room z;"
            + "tenant t hours 4 in p;tenant u hours 5 in q;tenant v hours 6 in r;tenant w hours 0 in z;tenant x hours 0;";
        CatLeases x = Check.told(told);
        Check.due("below 0, and 0", 3, x.shaky());
        Check.due("below 0, and 0", 3, x.quarter());
        Check.due("t is out", -1, x.tenant(0, 0));
        Check.due("u is out", -1, x.tenant(1, 0));
        Check.due("1 stays", 2, x.tenant(2, 0));
        Check.due("in probate he stays", 3, x.tenant(3, 0));
        Check.due("nobody is in p", -1, x.room(0, 1));
        // The quarter and the stay that count are those ahead of it.
        CatLeases y = Check.told(told + "likes 1 - quarter;");
        Check.due("quarter 0 is ahead of it", 0, y.quarter());
        Check.due("quarter 1", 7, y.quarter());
        CatLeases z = Check.told(told + "likes 1 - stayed;");
        Check.due("stayed 0 is ahead of it", 0, z.quarter());
        Check.due("stayed 1", 7, z.quarter());
        // A death in a quarter comes behind it: the heir looks at him in the next.
        CatLeases heir = Check.told("cat a wants 99;cat b wants 0 heir a;room r of b;tenant t hours 5 in r;draw 35;dies 50;");
        // 35 * 137 + 71 is 4866, 866 * 137 + 71 is 118713: b dies alone.
        Check.due("b likes him", 0, heir.quarter());
        Check.due("b died", 1, heir.about(3));
        Check.due("he is in it still", 0, heir.tenant(0, 0));
        Check.due("a does not like him", 1, heir.quarter());
    }

    /** "each other one in a ROOM STAYED a quarter more (999 at most)" */
    private static void stayed() {
        CatLeases x = Check.told("cat a wants 0;room p of a;room z;tenant t hours 1 in p;tenant u hours 1 in z;tenant v hours 1;");
        for (int i = 1; i <= 3; i++) {
            x.quarter();
            Check.due("in a room that is kept", i, x.tenant(0, 4));
            Check.due("in probate", i, x.tenant(1, 4));
            Check.due("out", 0, x.tenant(2, 4));
        }
        CatLeases y = Check.told("room z;tenant u hours 1 in z;");
        for (int i = 0; i < 998; i++) y.quarter();
        Check.due("998", 998, y.tenant(0, 4));
        y.quarter();
        Check.due("999", 999, y.tenant(0, 4));
        y.image(0);
        Check.due("behind 999 of them", -1, y.quarter());
        Check.due("999", 999, y.tenant(0, 4));
    }

    /** "CAT by CAT that lives, the SEED becomes its 137-fold and 71 more, modulo 1,000" */
    private static void draws() {
        int seed = 999;
        CatLeases x = Check.told("cat a wants 0;cat b wants 0;draw 999;");
        for (int i = 0; i < 20; i++) {
            x.quarter();
            seed = (seed * 137 + 71) % 1000;
            seed = (seed * 137 + 71) % 1000;
            Check.due("the seed", seed, x.about(6));
        }
        CatLeases none = Check.told("room r;draw 5;");
        none.quarter();
        Check.due("no cats, no draws", 5, none.about(6));
        CatLeases one = Check.told("cat a wants 0;draw 0;");
        one.quarter();
        Check.due("one cat, one draw", 71, one.about(6));
    }

    /** "each ROOM of theirs goes to the heir, from there to his heir, if he is dead, and so on, till one lives; in PROBATE, if there is none" */
    private static void heirs() {
        StringBuilder s = new StringBuilder();
        for (int c = 0; c < 6; c++) s.append("cat ").append(letters(c)).append(" wants 1").append(c == 0 ? "" : " heir " + letters(c - 1)).append(";");
        s.append("room r of f;room s of a;room z;");
        CatLeases x = Check.told(s.toString());
        int dead = 0;
        for (int c = 5; c > 0; c--) {
            dead |= 1 << c;
            Check.due("the heir's heir that lives", c - 1, x.keeper(0, dead));
        }
        Check.due("none lives", -1, x.keeper(0, 63));
        Check.due("the heir is dead, his heir lives", 3, x.keeper(0, 1 << 5 | 1 << 4));
        Check.due("an heir's death alone is nothing to the room", 5, x.keeper(0, 31));
        Check.due("no heir", -1, x.keeper(1, 1));
        Check.due("in probate already", -1, x.keeper(2, 0));
        // An heir who is alive is not passed over, though his own heir is dead.
        Check.due("the heir lives", 4, x.keeper(0, 1 << 5 | 1 << 3));
    }

    // ---- acts ----

    /** "UNDO takes back the latest ACT that was not ... (till another ACT); 40 at most are kept, the oldest go." */
    private static void actsKept() {
        CatLeases x = Check.told("tenant t hours 0;");
        for (int i = 1; i <= 40; i++) x.spend(0, i);
        Check.due("40", 40, x.about(7));
        for (int i = 39; i >= 0; i--) {
            Check.due("undo", true, x.undo());
            Check.due("hours", i, x.tenant(0, 1));
        }
        Check.due("none is left", false, x.undo());
        Check.due("40 to redo", 40, x.about(8));
        for (int i = 1; i <= 40; i++) {
            Check.due("redo", true, x.redo());
            Check.due("hours", i, x.tenant(0, 1));
        }
        Check.due("none is left", false, x.redo());
        x.spend(0, 41);
        Check.due("40 at most", 40, x.about(7));
        for (int i = 0; i < 40; i++) x.undo();
        Check.due("the oldest went", 1, x.tenant(0, 1));
        Check.due("none is left", false, x.undo());
        x.redo();
        x.spend(0, 99);
        Check.due("another act", 0, x.about(8));
        Check.due("no redo", false, x.redo());
        Check.due("two acts", 2, x.about(7));
        x.undo();
        Check.due("hours", 2, x.tenant(0, 1));
        x.undo();
        Check.due("hours", 1, x.tenant(0, 1));
    }

    // ---- ==== 3 ----

    /** "What lies ahead goes on as told beyond the last quarter, too." */
    private static void whatLiesAhead() {
        CatLeases x = Check.told("cat a wants 0;cat b wants 0;room p of a;room q of b;tenant t hours 1 in p;tenant u hours 1 in q;likes 1010 - quarter;");
        for (int i = 0; i < 999; i++) x.quarter();
        Check.due("no quarter more", -1, x.quarter());
        Check.due("lasts", 12, x.lasts(0));
        Check.due("will behind 11", 0, x.will(0, 11, 0));
        Check.due("will behind 12", -1, x.will(0, 12, 0));
        Check.due("will behind 11", 0, x.will(0, 11, 1));
        Check.due("will behind 12", -1, x.will(0, 12, 1));
        Check.due("housed(11)", 2, x.housed(11));
        Check.due("housed(12)", 0, x.housed(12));
        Check.due("grief(0, 12)", -1, x.grief(0, 12));
        Check.due("haven", 12, x.haven(0, 1));
        Check.due("shaky", 0, x.shaky());
    }
}
