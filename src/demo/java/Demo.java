import java.nio.charset.StandardCharsets;

public final class Demo {
    public static void main(String[] args) {
        CatLeases mews = new CatLeases();
        tell(mews, "cat tom wants 6; cat kit wants 9 heir tom; room attic of tom; room cellar of kit; room loft of kit;"
            + " tenant ann hours 8 in attic; tenant bob hours 12 fidgets 4 in cellar; tenant cid hours 7 warm 1;"
            + " likes hours - wants + warm * 3 - fidgets - stayed; dies 20; draw 7;");
        System.out.println("tenants: " + mews.mews());
        System.out.println("how tom likes ann: " + mews.liking(0, 0));
        System.out.println("who would be thrown out: " + mews.shaky());
        System.out.println("ann is out behind " + mews.lasts(0) + " quarters");
        System.out.println("can be let: " + mews.letting() + ", cid to room " + mews.lies(2));
        System.out.println("cid moves in, from " + mews.move(2, 2));
        System.out.println("thrown out by a quarter: " + mews.quarter());
        System.out.println("undone: " + mews.undo() + ", bob is in room " + mews.tenant(1, 0));
        System.out.println("kit lives for two quarters: " + mews.odds(1, 2, 0) + " of " + mews.odds(1, 2, 1));

        mews.seen(1, 1, true);
        System.out.println("bob was in a room behind a quarter, so kit wanted " + mews.sure(0, 0) + " to " + mews.sure(1, 0));

        tell(mews, "cat wants 5;");
        System.out.println("mews: " + mews.mews() + ", fault " + mews.fault(0) + " at " + mews.fault(1));
    }

    /** Puts a text on the tape, twenty bytes a call, and cuts off what the last call held too much. */
    private static void tell(CatLeases mews, String text) {
        byte[] bytes = text.getBytes(StandardCharsets.ISO_8859_1);
        mews.end(0);
        for (int at = 0; at < bytes.length; at += 20) {
            mews.feed(four(bytes, at), four(bytes, at + 4), four(bytes, at + 8), four(bytes, at + 12), four(bytes, at + 16));
        }
        mews.end(bytes.length);
    }

    /** Four bytes as one int, the highest first; blanks behind the end. */
    private static int four(byte[] bytes, int at) {
        int number = 0;
        for (int i = at; i < at + 4; i++) {
            number = number << 8 | (i < bytes.length ? bytes[i] & 255 : 32);
        }
        return number;
    }
}
