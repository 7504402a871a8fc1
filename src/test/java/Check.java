import java.nio.charset.StandardCharsets;

/** Counts what is not as due, and tells texts to an object. */
final class Check {
    private static int wrong = 0;
    private static int done = 0;

    private Check() {}

    static void due(String what, long want, long got) {
        done++;
        if (got != want) {
            wrong++;
            System.out.println(what + " answered " + got + ", due is " + want);
        }
    }

    static void due(String what, boolean want, boolean got) {
        due(what, want ? 1 : 0, got ? 1 : 0);
    }

    static void put(CatLeases x, String text) {
        byte[] bytes = text.getBytes(StandardCharsets.ISO_8859_1);
        int before = x.about(11);
        for (int at = 0; at < bytes.length; at += 20) {
            x.feed(four(bytes, at), four(bytes, at + 4), four(bytes, at + 8), four(bytes, at + 12), four(bytes, at + 16));
        }
        x.end(before + bytes.length);
    }

    private static int four(byte[] bytes, int at) {
        int n = 0;
        for (int i = at; i < at + 4; i++) n = n << 8 | (i < bytes.length ? bytes[i] & 255 : 32);
        return n;
    }

    /** A new object of which that text is the mews. */
    static CatLeases told(String text) {
        CatLeases x = new CatLeases();
        put(x, text);
        if (x.mews() < 0) due("mews() of " + text + ", fault " + x.fault(0) + " at " + x.fault(1), 0, -1);
        return x;
    }

    /** The fault of a text, and its place. */
    static void fault(String text, int fault, int place) {
        CatLeases x = new CatLeases();
        put(x, text);
        due("mews() of " + text, CatLeases.NONE, x.mews());
        due("fault(0) of " + text, fault, x.fault(0));
        due("fault(1) of " + text, place, x.fault(1));
    }

    static void noFault(String text) {
        CatLeases x = new CatLeases();
        put(x, text);
        due("mews() of " + text + " is well", true, x.mews() >= 0);
        due("fault(0) of " + text, 0, x.fault(0));
        due("fault(1) of " + text, CatLeases.NONE, x.fault(1));
    }

    /** What a formula comes to for hours 20, wants 5, warm 2, fidgets 3, one room of its cat. */
    static void formula(String formula, int want) {
        CatLeases x = told("cat a wants 5;room r of a;tenant t hours 20 warm 2 fidgets 3;likes " + formula + ";");
        due("likes " + formula, want, x.liking(0, 0));
    }

    static void end(String name) {
        System.out.println(name + ": " + done + " answers, " + wrong + " wrong");
        if (wrong != 0) System.exit(1);
    }
}
