import java.nio.charset.StandardCharsets;
import java.util.function.IntSupplier;

/** Counts what is not as due, and tells texts to an object. */
final class Check {
    private static int wrong = 0;
    private static int done = 0;

    private Check() {}

    static void due(String what, long want, long got) {
        done++;
        if (got != want) {
            wrong++;
            System.out.println(what + " answered " + got + ", due is " + want);
        }
    }

    static void due(String what, String want, String got) {
        due(what + ": " + got + ", due is " + want, true, want.equals(got));
    }

    static void due(String what, boolean want, boolean got) {
        due(what, want ? 1 : 0, got ? 1 : 0);
    }

    static void put(CatLeases x, String text) {
        byte[] bytes = text.getBytes(StandardCharsets.ISO_8859_1);
        int before = x.about(11);
        for (int at = 0; at < bytes.length; at += 20) {
            x.feed(four(bytes, at), four(bytes, at + 4), four(bytes, at + 8), four(bytes, at + 12), four(bytes, at + 16));
        }
        x.end(before + bytes.length);
    }

    private static int four(byte[] bytes, int at) {
        int n = 0;
        for (int i = at; i < at + 4; i++) n = n << 8 | (i < bytes.length ? bytes[i] & 255 : 32);
        return n;
    }

    /** A new object of which that text is the mews. */
    static CatLeases told(String text) {
        CatLeases x = new CatLeases();
        put(x, text);
        if (x.mews() < 0) due("mews() of " + text + ", fault " + x.fault(0) + " at " + x.fault(1), 0, -1);
        return x;
    }

    /** The fault of a text, and its place. */
    static void fault(String text, int fault, int place) {
        CatLeases x = new CatLeases();
        put(x, text);
        due("mews() of " + text, CatLeases.NONE, x.mews());
        due("fault(0) of " + text, fault, x.fault(0));
        due("fault(1) of " + text, place, x.fault(1));
    }

    static void noFault(String text) {
        CatLeases x = new CatLeases();
        put(x, text);
        due("mews() of " + text + " is well", true, x.mews() >= 0);
        due("fault(0) of " + text, 0, x.fault(0));
        due("fault(1) of " + text, CatLeases.NONE, x.fault(1));
    }

    /** What a formula comes to for hours 20, wants 5, warm 2, fidgets 3, one room of its cat. */
    static void formula(String formula, int want) {
        CatLeases x = told("cat a wants 5;room r of a;tenant t hours 20 warm 2 fidgets 3;likes " + formula + ";");
        due("likes " + formula, want, x.liking(0, 0));
    }

    /** What acts change, and what was told. */
    static String world(CatLeases x) {
        StringBuilder s = new StringBuilder();
        for (int what = 0; what <= 6; what++) s.append(x.about(what)).append(' ');
        for (int c = 0; c < x.about(1); c++) for (int what = 0; what <= 4; what++) s.append(x.cat(c, what)).append(' ');
        for (int r = 0; r < x.about(2); r++) for (int what = 0; what <= 1; what++) s.append(x.room(r, what)).append(' ');
        for (int t = 0; t < x.about(0); t++) for (int what = 0; what <= 4; what++) s.append(x.tenant(t, what)).append(' ');
        return s.append("units ").append(x.about(12)).toString();
    }

    /** The acts that are kept, what is seen and known, and what lies there. */
    static String kept(CatLeases x) {
        StringBuilder s = new StringBuilder();
        for (int what : new int[] {7, 8, 9, 10, 13}) s.append(x.about(what)).append(' ');
        for (int i = 0; i <= 7; i++) s.append(x.lies(i)).append(' ');
        int now = x.about(10);
        return s.append("fits ").append(x.fits(now)).append(' ').append(x.sure(0, now)).append(' ').append(x.sure(1, now)).toString();
    }

    /** All that can be seen of an object without a change. */
    static String all(CatLeases x) {
        return world(x) + " kept " + kept(x) + " tape " + x.about(11) + " fault " + x.fault(0) + ' ' + x.fault(1);
    }

    /** A call that answers so, and does nothing. */
    static void idle(CatLeases x, String what, int want, IntSupplier call) {
        String before = all(x);
        due(what, want, call.getAsInt());
        due(what + " does nothing", before, all(x));
    }

    static void end(String name) {
        System.out.println(name + ": " + done + " answers, " + wrong + " wrong");
        if (wrong != 0) System.exit(1);
    }
}
