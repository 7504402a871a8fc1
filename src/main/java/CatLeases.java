import java.util.Arrays;

/**
 * A mews whose leases are held by cats: it is told in a text, goes on by quarters and other acts,
 * and is asked of what is now, of what lies ahead, and of what the last cat wanted at first.
 *
 * All rows are made with the object and used again, so that no call makes anything.
 */
public final class CatLeases {
    public static final int NONE = -1;

    private static final int NO_SUCH = -2;
    private static final int NO_LIKING = -1000000000;
    private static final int NO_PURSE = -1000000;
    private static final int NO_GRIEF = -1000;

    private static final int MAX_TEXT = 1600;
    private static final int FED = 20;
    private static final int MAX_CATS = 6;
    private static final int MAX_ROOMS = 8;
    private static final int MAX_TENANTS = 7;
    private static final int MAX_WANTS = 99;
    private static final int MAX_HOURS = 99;
    private static final int MAX_WARM = 9;
    private static final int MAX_FIDGETS = 9;
    private static final int MAX_DIES = 100;
    private static final int MAX_SEED = 999;
    private static final int LAST_QUARTER = 999;
    private static final int MAX_STAYED = 999;
    private static final int KEPT_ACTS = 40;
    private static final int BOXES = 3;

    private static final int MAX_WILL = 60;
    private static final int MAX_LASTS = 99;
    private static final int MAX_GRIEF = 20;
    private static final int MAX_ODDS = 4;
    private static final int MAX_BID = 5;
    private static final int MAX_ADDED = 9999;

    private static final int MAX_SEEN = 30;
    private static final int MAX_SEEN_QUARTER = 9;
    private static final int MAX_LATER = 1000;
    private static final int MAX_TIME = 100000;

    private final byte[] tape = new byte[MAX_TEXT];
    private int tapeLength = 0;
    private final Reader reader = new Reader();
    private Mews mews = new Mews();
    private final Acts acts = new Acts();
    private final State ahead = new State();
    private final State[] boxes = new State[BOXES];
    private int filledBoxes = 0;
    private final Letting let = new Letting();
    private final Auction auction = new Auction();
    private final int[] lying = new int[MAX_TENANTS];
    private int lyingCount = 0;
    private final Sightings sightings = new Sightings();
    private int time = 0;

    public CatLeases() {
        for (int box = 0; box < BOXES; box++) {
            boxes[box] = new State();
        }
    }

    // ---- the tape and the mews ----

    public int feed(int a, int b, int c, int d, int e) {
        if (tapeLength + FED > MAX_TEXT) {
            return NONE;
        }
        putOnTape(a);
        putOnTape(b);
        putOnTape(c);
        putOnTape(d);
        putOnTape(e);
        return tapeLength;
    }

    public int end(int n) {
        if (n < 0 || n > tapeLength) {
            return NONE;
        }
        tapeLength = n;
        return n;
    }

    public int mews() {
        if (!reader.read(tape, tapeLength)) {
            return NONE;
        }
        Mews former = mews;
        mews = reader.mews;
        reader.mews = former;
        tapeLength = 0;
        acts.startFrom(mews.told);
        sightings.forget();
        lyingCount = 0;
        filledBoxes = 0;
        return mews.tenants;
    }

    public int fault(int what) {
        switch (what) {
            case 0:
                return reader.fault;
            case 1:
                return reader.faultPlace;
            default:
                return NONE;
        }
    }

    private void putOnTape(int number) {
        for (int shift = 24; shift >= 0; shift -= 8) {
            if (tapeLength < tape.length) {
                tape[tapeLength] = (byte) (number >>> shift);
                tapeLength++;
            }
        }
    }

    // ---- what there is ----

    public int cat(int cat, int what) {
        if (!isCat(cat)) {
            return NO_SUCH;
        }
        State now = acts.current();
        switch (what) {
            case 0:
                return now.isLiving(cat) ? 1 : 0;
            case 1:
                return mews.wants[cat];
            case 2:
                return mews.heirs[cat];
            case 3:
                return mews.roomsOf(now, cat);
            case 4:
                return mews.tenantsOf(now, cat);
            default:
                return NO_SUCH;
        }
    }

    public int room(int room, int what) {
        if (!isRoom(room)) {
            return NO_SUCH;
        }
        State now = acts.current();
        switch (what) {
            case 0:
                return now.keepers[room];
            case 1:
                return mews.whoIsIn(now, room);
            default:
                return NO_SUCH;
        }
    }

    public int tenant(int tenant, int what) {
        if (!isTenant(tenant)) {
            return NO_SUCH;
        }
        State now = acts.current();
        switch (what) {
            case 0:
                return now.places[tenant];
            case 1:
                return now.hours[tenant];
            case 2:
                return mews.warmths[tenant];
            case 3:
                return now.fidgets[tenant];
            case 4:
                return now.stays[tenant];
            default:
                return NO_SUCH;
        }
    }

    public int liking(int tenant, int room) {
        State now = acts.current();
        if (!isTenant(tenant) || !isRoom(room) || !now.isKept(room)) {
            return NO_LIKING;
        }
        return mews.likes(now, tenant, room);
    }

    private boolean isCat(int cat) {
        return cat >= 0 && cat < mews.cats;
    }

    private boolean isLivingCat(int cat) {
        return isCat(cat) && acts.current().isLiving(cat);
    }

    private boolean isRoom(int room) {
        return room >= 0 && room < mews.rooms;
    }

    private boolean isTenant(int tenant) {
        return tenant >= 0 && tenant < mews.tenants;
    }

    private boolean areCats(int set) {
        return set >= 0 && set < 1 << mews.cats;
    }

    private boolean isInKeptRoom(int tenant) {
        State now = acts.current();
        return isTenant(tenant) && now.isKept(now.places[tenant]);
    }

    // ---- acts ----

    public int quarter() {
        if (acts.current().quarters >= LAST_QUARTER) {
            return NONE;
        }
        return mews.pass(acts.begin());
    }

    public int move(int tenant, int room) {
        if (!isTenant(tenant) || !isRoom(room) || mews.whoIsIn(acts.current(), room) != NONE) {
            return NO_SUCH;
        }
        State next = acts.begin();
        int former = next.places[tenant];
        next.place(tenant, room);
        return former;
    }

    public int leave(int tenant) {
        if (!isHoused(tenant)) {
            return NONE;
        }
        State next = acts.begin();
        int former = next.places[tenant];
        next.place(tenant, NONE);
        return former;
    }

    public int exchange(int tenant, int other) {
        if (tenant == other || !isHoused(tenant) || !isHoused(other)) {
            return NONE;
        }
        State next = acts.begin();
        int former = next.places[tenant];
        next.place(tenant, next.places[other]);
        next.place(other, former);
        return next.places[tenant];
    }

    public int claim(int room, int cat) {
        if (!isRoom(room) || !isLivingCat(cat) || acts.current().isKept(room)) {
            return NONE;
        }
        State next = acts.begin();
        next.keepers[room] = cat;
        return next.roomCount(cat);
    }

    public int spend(int tenant, int hours) {
        if (!isTenant(tenant) || hours < 0 || hours > MAX_HOURS) {
            return NONE;
        }
        int former = acts.current().hours[tenant];
        if (former == hours) {
            return NONE;
        }
        acts.begin().hours[tenant] = hours;
        return former;
    }

    public int calm(int tenant, int fidgets) {
        if (!isTenant(tenant) || fidgets < 0 || fidgets > MAX_FIDGETS) {
            return NONE;
        }
        int former = acts.current().fidgets[tenant];
        if (former == fidgets) {
            return NONE;
        }
        acts.begin().fidgets[tenant] = fidgets;
        return former;
    }

    public boolean undo() {
        return acts.stepBack();
    }

    public boolean redo() {
        return acts.stepForth();
    }

    private boolean isHoused(int tenant) {
        return isTenant(tenant) && acts.current().places[tenant] != NONE;
    }

    // ---- what lies ahead ----

    public int will(int tenant, int n, int what) {
        if (!isTenant(tenant) || n < 0 || n > MAX_WILL) {
            return NO_SUCH;
        }
        State now = acts.current();
        if (what == 0) {
            return mews.outBehind(now, tenant, n) <= n ? NONE : now.places[tenant];
        }
        if (what != 1) {
            return NO_SUCH;
        }
        ahead.copyOf(now);
        for (int i = 0; i < n; i++) {
            mews.pass(ahead);
        }
        return ahead.places[tenant];
    }

    public int lasts(int tenant) {
        if (!isTenant(tenant)) {
            return NONE;
        }
        int behind = mews.outBehind(acts.current(), tenant, MAX_LASTS);
        return behind > MAX_LASTS ? NONE : behind;
    }

    public int shaky() {
        return mews.thrownOut(acts.current());
    }

    public int housed(int n) {
        if (n < 0 || n > MAX_WILL) {
            return NONE;
        }
        return mews.tenants - outCount(acts.current(), n);
    }

    public int law(int n) {
        if (n < 0 || n > MAX_WANTS) {
            return NONE;
        }
        return Integer.bitCount(mews.thrownOutAt(acts.current(), n));
    }

    public int grief(int cat, int n) {
        if (!isLivingCat(cat) || n < 0 || n > MAX_GRIEF) {
            return NO_GRIEF;
        }
        State now = acts.current();
        ahead.copyOf(now);
        mews.die(ahead, 1 << cat);
        return outCount(ahead, n) - outCount(now, n);
    }

    public int haven(int tenant, int what) {
        if (!isTenant(tenant) || what < 0 || what > 1) {
            return NONE;
        }
        int best = NONE;
        int longest = NONE;
        for (int room = 0; room < mews.rooms; room++) {
            int time = timeIn(tenant, room);
            if (time > longest) {
                best = room;
                longest = time;
            }
        }
        return what == 0 ? best : longest;
    }

    public int odds(int cat, int n, int part) {
        if (!isLivingCat(cat) || n < 0 || n > MAX_ODDS || part < 0 || part > 1) {
            return NONE;
        }
        int upper = 1;
        int lower = 1;
        for (int i = 0; i < n; i++) {
            upper *= MAX_DIES - mews.dies;
            lower *= MAX_DIES;
        }
        int common = commonDivisor(upper, lower);
        return (part == 0 ? upper : lower) / Math.max(1, common);
    }

    private int outCount(State from, int n) {
        int count = 0;
        for (int tenant = 0; tenant < mews.tenants; tenant++) {
            if (mews.outBehind(from, tenant, n) <= n) {
                count++;
            }
        }
        return count;
    }

    /** How long he would last in a room by moving there; NONE if somebody else is there. */
    private int timeIn(int tenant, int room) {
        State now = acts.current();
        int inside = mews.whoIsIn(now, room);
        if (inside != NONE && inside != tenant) {
            return NONE;
        }
        ahead.copyOf(now);
        if (inside == NONE) {
            ahead.place(tenant, room);
        }
        return Math.min(MAX_LASTS, mews.outBehind(ahead, tenant, MAX_LASTS));
    }

    private static int commonDivisor(int a, int b) {
        int greater = a;
        int lesser = b;
        // Euclid's rests halve in two steps, so 64 steps are enough for any two ints.
        for (int i = 0; i < 64 && lesser != 0; i++) {
            int rest = greater % lesser;
            greater = lesser;
            lesser = rest;
        }
        return greater;
    }

    // ---- lettings, exchanges, bids ----

    public int letting() {
        let.solve(mews, acts.current());
        lyingCount = mews.tenants;
        let.tell(lying, lyingCount);
        return let.count();
    }

    public int pleasure() {
        let.solve(mews, acts.current());
        return let.together();
    }

    public int swaps(int what) {
        if (what < 0 || what > 2) {
            return NONE;
        }
        int count = 0;
        for (int lesser = 0; lesser < mews.tenants; lesser++) {
            for (int other = lesser + 1; other < mews.tenants; other++) {
                if (wouldBothGain(lesser, other)) {
                    if (what != 0) {
                        return what == 1 ? lesser : other;
                    }
                    count++;
                }
            }
        }
        return what == 0 ? count : NONE;
    }

    public int pay(int tenant) {
        if (!isInKeptRoom(tenant)) {
            return NONE;
        }
        State now = acts.current();
        mews.consider(now, tenant, now.places[tenant]);
        for (int hours = 0; hours <= MAX_HOURS; hours++) {
            if (mews.likesBy(Formula.HOURS, hours) > 0) {
                return hours;
            }
        }
        return NONE;
    }

    public int borne(int tenant) {
        if (!isInKeptRoom(tenant)) {
            return NONE;
        }
        State now = acts.current();
        mews.consider(now, tenant, now.places[tenant]);
        for (int fidgets = MAX_FIDGETS; fidgets >= 0; fidgets--) {
            if (mews.likesBy(Formula.FIDGETS, fidgets) > 0) {
                return fidgets;
            }
        }
        return NONE;
    }

    public int bid(int tenant, int other, int room) {
        lyingCount = 0;
        if (tenant == other || !isOut(tenant) || !isOut(other) || !isRoom(room)) {
            return NONE;
        }
        State now = acts.current();
        if (!now.isKept(room) || mews.whoIsIn(now, room) != NONE) {
            return NONE;
        }
        auction.open(mews, now, room, tenant, other);
        int rests = auction.countRests();
        if (rests > 0) {
            lying[0] = auction.firstBid;
            lying[1] = auction.otherBid;
            lyingCount = 2;
        }
        return rests;
    }

    public int lies(int i) {
        return i >= 0 && i < lyingCount ? lying[i] : NO_SUCH;
    }

    private boolean isOut(int tenant) {
        return isTenant(tenant) && acts.current().places[tenant] == NONE;
    }

    private boolean wouldBothGain(int one, int other) {
        State now = acts.current();
        int here = now.places[one];
        int there = now.places[other];
        if (!now.isKept(here) || !now.isKept(there)) {
            return false;
        }
        return mews.likes(now, one, there) > mews.likes(now, one, here)
            && mews.likes(now, other, here) > mews.likes(now, other, there);
    }

    // ---- cats ----

    public int keeper(int room, int set) {
        if (!isRoom(room) || !areCats(set)) {
            return NO_SUCH;
        }
        State now = acts.current();
        return mews.livingHeir(now.keepers[room], now.living & ~set);
    }

    public int probate(int set) {
        if (!areCats(set)) {
            return NONE;
        }
        State now = acts.current();
        int count = 0;
        for (int room = 0; room < mews.rooms; room++) {
            if (mews.livingHeir(now.keepers[room], now.living & ~set) == NONE) {
                count++;
            }
        }
        return count;
    }

    public int crowd(int cat) {
        if (!isLivingCat(cat)) {
            return NONE;
        }
        for (int kept = MAX_ROOMS; kept >= 0; kept--) {
            if (likesAllBy(cat, kept)) {
                return kept;
            }
        }
        return NONE;
    }

    public int fondest() {
        State now = acts.current();
        int best = NONE;
        int most = 0;
        for (int cat = 0; cat < mews.cats; cat++) {
            int theirs = mews.tenantsOf(now, cat);
            if (theirs != 0) {
                int together = likingTogether(theirs);
                if (best == NONE || together > most) {
                    best = cat;
                    most = together;
                }
            }
        }
        return best;
    }

    public int nobodys() {
        int bits = 0;
        for (int tenant = 0; tenant < mews.tenants; tenant++) {
            if (!isLikedAnywhere(tenant)) {
                bits |= 1 << tenant;
            }
        }
        return bits;
    }

    public int purse(int cat) {
        if (!isCat(cat)) {
            return NO_PURSE;
        }
        State now = acts.current();
        int theirs = mews.tenantsOf(now, cat);
        int sum = 0;
        for (int tenant = 0; tenant < mews.tenants; tenant++) {
            if ((theirs >> tenant & 1) != 0) {
                sum += now.hours[tenant] - mews.wants[cat];
            }
        }
        return sum;
    }

    private boolean likesAllBy(int cat, int kept) {
        State now = acts.current();
        int theirs = mews.tenantsOf(now, cat);
        for (int tenant = 0; tenant < mews.tenants; tenant++) {
            if ((theirs >> tenant & 1) != 0) {
                mews.consider(now, tenant, now.places[tenant]);
                if (mews.likesBy(Formula.ROOMS, kept) <= 0) {
                    return false;
                }
            }
        }
        return true;
    }

    private int likingTogether(int set) {
        State now = acts.current();
        int sum = 0;
        for (int tenant = 0; tenant < mews.tenants; tenant++) {
            if ((set >> tenant & 1) != 0) {
                int liking = mews.likes(now, tenant, now.places[tenant]);
                sum += Math.max(-MAX_ADDED, Math.min(MAX_ADDED, liking));
            }
        }
        return sum;
    }

    private boolean isLikedAnywhere(int tenant) {
        State now = acts.current();
        for (int room = 0; room < mews.rooms; room++) {
            if (now.isKept(room) && mews.likes(now, tenant, room) > 0) {
                return true;
            }
        }
        return false;
    }

    // ---- what is seen ----

    public int seen(int quarters, int tenant, boolean is) {
        if (!isSeenQuarter(quarters) || !isTenant(tenant) || mews.cats == 0) {
            return NONE;
        }
        return sightings.add(quarters, tenant, is, time);
    }

    public boolean untell(int seen) {
        return sightings.takeBack(seen, time);
    }

    public int later(int by) {
        if (by < 0 || by > MAX_LATER || time + by > MAX_TIME) {
            return NONE;
        }
        time += by;
        return time;
    }

    public int fits(int k) {
        sightings.foresee(mews);
        int count = 0;
        for (int wants = 0; wants <= MAX_WANTS; wants++) {
            if (sightings.allow(wants, k)) {
                count++;
            }
        }
        return count;
    }

    public int sure(int what, int k) {
        if (what < 0 || what > 1) {
            return NONE;
        }
        sightings.foresee(mews);
        for (int i = 0; i <= MAX_WANTS; i++) {
            int wants = what == 0 ? i : MAX_WANTS - i;
            if (sightings.allow(wants, k)) {
                return wants;
            }
        }
        return NONE;
    }

    public int ask(int quarters, int what, int k) {
        if (!isSeenQuarter(quarters) || what < 0 || what > 1) {
            return NONE;
        }
        int all = fits(k);
        if (all == 0) {
            return NONE;
        }
        int best = NONE;
        int fewest = NONE;
        for (int tenant = 0; tenant < mews.tenants; tenant++) {
            int inside = sightings.countInside(tenant, quarters, k);
            int left = Math.max(inside, all - inside);
            if (best == NONE || left < fewest) {
                best = tenant;
                fewest = left;
            }
        }
        return what == 0 ? best : fewest;
    }

    private static boolean isSeenQuarter(int quarters) {
        return quarters >= 0 && quarters <= MAX_SEEN_QUARTER;
    }

    // ---- images, and all else ----

    public int image(int box) {
        if (box < 0 || box >= boxes.length) {
            return NONE;
        }
        State now = acts.current();
        boxes[box].copyOf(now);
        filledBoxes |= 1 << box;
        return now.quarters;
    }

    public int back(int box) {
        if (box < 0 || box >= boxes.length || (filledBoxes >> box & 1) == 0) {
            return NONE;
        }
        acts.startFrom(boxes[box]);
        return acts.current().quarters;
    }

    public int about(int what) {
        State now = acts.current();
        switch (what) {
            case 0:
                return mews.tenants;
            case 1:
                return mews.cats;
            case 2:
                return mews.rooms;
            case 3:
                return now.living;
            case 4:
                return mews.whoIsOut(now);
            case 5:
                return now.quarters;
            case 6:
                return now.seed;
            case 7:
                return acts.undoable;
            case 8:
                return acts.redoable;
            case 9:
                return sightings.count;
            case 10:
                return time;
            case 11:
                return tapeLength;
            case 12:
                return mews.units;
            case 13:
                return lyingCount;
            default:
                return NONE;
        }
    }

    /** Who is where and all else that acts change. */
    private static final class State {
        final int[] keepers = new int[MAX_ROOMS];
        final int[] places = new int[MAX_TENANTS];
        final int[] stays = new int[MAX_TENANTS];
        final int[] hours = new int[MAX_TENANTS];
        final int[] fidgets = new int[MAX_TENANTS];
        int living = 0;
        int quarters = 0;
        int seed = 0;

        State() {
            Arrays.fill(keepers, NONE);
            Arrays.fill(places, NONE);
        }

        void empty() {
            Arrays.fill(keepers, NONE);
            Arrays.fill(places, NONE);
            Arrays.fill(stays, 0);
            Arrays.fill(hours, 0);
            Arrays.fill(fidgets, 0);
            living = 0;
            quarters = 0;
            seed = 0;
        }

        void copyOf(State other) {
            System.arraycopy(other.keepers, 0, keepers, 0, MAX_ROOMS);
            System.arraycopy(other.places, 0, places, 0, MAX_TENANTS);
            System.arraycopy(other.stays, 0, stays, 0, MAX_TENANTS);
            System.arraycopy(other.hours, 0, hours, 0, MAX_TENANTS);
            System.arraycopy(other.fidgets, 0, fidgets, 0, MAX_TENANTS);
            living = other.living;
            quarters = other.quarters;
            seed = other.seed;
        }

        boolean isLiving(int cat) {
            return (living >> cat & 1) != 0;
        }

        boolean isKept(int room) {
            return room >= 0 && room < keepers.length && keepers[room] != NONE;
        }

        int roomCount(int cat) {
            int count = 0;
            for (int room = 0; room < keepers.length; room++) {
                if (keepers[room] == cat) {
                    count++;
                }
            }
            return count;
        }

        void place(int tenant, int room) {
            if (tenant >= 0 && tenant < places.length) {
                places[tenant] = room;
                stays[tenant] = 0;
            }
        }
    }

    /** A mews as it was told, and what comes of a state by its rules. */
    private static final class Mews {
        int cats = 0;
        int rooms = 0;
        int tenants = 0;
        int dies = 0;
        int units = 0;
        final int[] wants = new int[MAX_CATS];
        final int[] heirs = new int[MAX_CATS];
        final int[] warmths = new int[MAX_TENANTS];
        final State told = new State();
        final Formula formula = new Formula();
        private final int[] terms = new int[Formula.TERMS];

        void empty() {
            cats = 0;
            rooms = 0;
            tenants = 0;
            dies = 0;
            units = 0;
            told.empty();
            formula.empty();
        }

        int roomsOf(State state, int cat) {
            int bits = 0;
            for (int room = 0; room < rooms; room++) {
                if (state.keepers[room] == cat) {
                    bits |= 1 << room;
                }
            }
            return bits;
        }

        int tenantsOf(State state, int cat) {
            int bits = 0;
            for (int tenant = 0; tenant < tenants; tenant++) {
                int room = state.places[tenant];
                if (state.isKept(room) && state.keepers[room] == cat) {
                    bits |= 1 << tenant;
                }
            }
            return bits;
        }

        int whoIsIn(State state, int room) {
            for (int tenant = 0; tenant < tenants; tenant++) {
                if (state.places[tenant] == room) {
                    return tenant;
                }
            }
            return NONE;
        }

        int whoIsOut(State state) {
            int bits = 0;
            for (int tenant = 0; tenant < tenants; tenant++) {
                if (state.places[tenant] == NONE) {
                    bits |= 1 << tenant;
                }
            }
            return bits;
        }

        /** Makes the terms of the formula those of a tenant in a room that is kept. */
        void consider(State state, int tenant, int room) {
            if (tenant < 0 || tenant >= tenants || !state.isKept(room)) {
                return;
            }
            int cat = state.keepers[room];
            terms[Formula.HOURS] = state.hours[tenant];
            terms[Formula.WANTS] = cat < wants.length ? wants[cat] : 0;
            terms[Formula.WARM] = warmths[tenant];
            terms[Formula.FIDGETS] = state.fidgets[tenant];
            terms[Formula.STAYED] = state.places[tenant] == room ? state.stays[tenant] : 0;
            terms[Formula.ROOMS] = state.roomCount(cat);
            terms[Formula.QUARTER] = state.quarters;
        }

        int likes(State state, int tenant, int room) {
            consider(state, tenant, room);
            return formula.value(terms);
        }

        /** The liking of what is considered, but for one term. */
        int likesBy(int term, int number) {
            if (term >= 0 && term < terms.length) {
                terms[term] = number;
            }
            return formula.value(terms);
        }

        int thrownOut(State state) {
            int bits = 0;
            for (int tenant = 0; tenant < tenants; tenant++) {
                int room = state.places[tenant];
                if (state.isKept(room) && likes(state, tenant, room) <= 0) {
                    bits |= 1 << tenant;
                }
            }
            return bits;
        }

        int thrownOutAt(State state, int wantsOfAll) {
            int bits = 0;
            for (int tenant = 0; tenant < tenants; tenant++) {
                int room = state.places[tenant];
                consider(state, tenant, room);
                if (state.isKept(room) && likesBy(Formula.WANTS, wantsOfAll) <= 0) {
                    bits |= 1 << tenant;
                }
            }
            return bits;
        }

        /** A quarter with its draws; who is thrown out by it, as bits. */
        int pass(State state) {
            int thrown = thrownOut(state);
            for (int tenant = 0; tenant < tenants; tenant++) {
                if ((thrown >> tenant & 1) != 0) {
                    state.place(tenant, NONE);
                } else if (state.places[tenant] != NONE && state.stays[tenant] < MAX_STAYED) {
                    state.stays[tenant]++;
                }
            }
            die(state, draw(state));
            state.quarters++;
            return thrown;
        }

        private int draw(State state) {
            int dead = 0;
            for (int cat = 0; cat < cats; cat++) {
                if (state.isLiving(cat)) {
                    state.seed = (state.seed * 137 + 71) % (MAX_SEED + 1);
                    if (state.seed % 100 < dies) {
                        dead |= 1 << cat;
                    }
                }
            }
            return dead;
        }

        void die(State state, int set) {
            state.living &= ~set;
            for (int room = 0; room < rooms; room++) {
                state.keepers[room] = livingHeir(state.keepers[room], state.living);
            }
        }

        /** The cat itself, or the first one along its heirs, that lives. */
        int livingHeir(int cat, int living) {
            int heir = cat;
            for (int i = 0; i <= MAX_CATS; i++) {
                if (heir < 0 || heir >= cats) {
                    return NONE;
                }
                if ((living >> heir & 1) != 0) {
                    return heir;
                }
                heir = heirs[heir];
            }
            return NONE;
        }

        /** Behind how many quarters a tenant is out, if nobody dies; more than most, if not by then. */
        int outBehind(State state, int tenant, int most) {
            consider(state, tenant, state.places[tenant]);
            return outBehindAsConsidered(state, tenant, most);
        }

        int outBehindAtWants(State state, int tenant, int wantsOfCat, int most) {
            consider(state, tenant, state.places[tenant]);
            terms[Formula.WANTS] = wantsOfCat;
            return outBehindAsConsidered(state, tenant, most);
        }

        // As long as nobody dies, no tenant's fate depends on another's: time alone changes the terms.
        private int outBehindAsConsidered(State state, int tenant, int most) {
            if (state.places[tenant] == NONE) {
                return 0;
            }
            if (!state.isKept(state.places[tenant])) {
                return most + 1;
            }
            for (int n = 0; n < most; n++) {
                terms[Formula.STAYED] = Math.min(MAX_STAYED, state.stays[tenant] + n);
                terms[Formula.QUARTER] = state.quarters + n;
                if (formula.value(terms) <= 0) {
                    return n + 1;
                }
            }
            return most + 1;
        }
    }

    /** How a cat likes one: steps for a stack, numbers as they are (0 or above), all else below 0. */
    private static final class Formula {
        static final int HOURS = 0;
        static final int WANTS = 1;
        static final int WARM = 2;
        static final int FIDGETS = 3;
        static final int STAYED = 4;
        static final int ROOMS = 5;
        static final int QUARTER = 6;
        static final int TERMS = 7;

        static final int MAX_UNITS = 30;
        static final int MAX_DEPTH = 7;
        // A step for each unit, one for each joining, and as many nots as can stand ahead of each unit.
        private static final int MAX_STEPS = MAX_UNITS * (2 + MAX_DEPTH);

        static final int NOT = -20;
        static final int OR = -21;
        static final int AND = -22;
        static final int LESS = -23;
        static final int MORE = -24;
        static final int SAME = -25;
        static final int PLUS = -26;
        static final int MINUS = -27;
        static final int TIMES = -28;
        static final int OVER = -29;
        static final int REST = -30;

        private final int[] steps = new int[MAX_STEPS];
        private final int[] stack = new int[MAX_UNITS];
        private int length = 0;

        void empty() {
            length = 0;
        }

        void addNumber(int number) {
            addStep(number);
        }

        void addTerm(int term) {
            addStep(-1 - term);
        }

        void addStep(int step) {
            if (length < steps.length) {
                steps[length] = step;
                length++;
            }
        }

        /** hours - wants + warm * 3 - fidgets */
        void addUntold() {
            addTerm(HOURS);
            addTerm(WANTS);
            addStep(MINUS);
            addTerm(WARM);
            addNumber(3);
            addStep(TIMES);
            addStep(PLUS);
            addTerm(FIDGETS);
            addStep(MINUS);
        }

        int value(int[] terms) {
            int top = 0;
            for (int i = 0; i < length; i++) {
                int step = steps[i];
                if (step > NOT) {
                    if (top < stack.length) {
                        stack[top] = unitValue(step, terms);
                        top++;
                    }
                } else if (step == NOT) {
                    if (top >= 1) {
                        stack[top - 1] = stack[top - 1] == 0 ? 1 : 0;
                    }
                } else if (top >= 2) {
                    top--;
                    stack[top - 1] = joined(step, stack[top - 1], stack[top]);
                }
            }
            return top > 0 ? stack[0] : 0;
        }

        private static int unitValue(int step, int[] terms) {
            if (step >= 0) {
                return step;
            }
            int term = -1 - step;
            return term < terms.length ? terms[term] : 0;
        }

        private static int joined(int step, int left, int right) {
            switch (step) {
                case OR:
                    return left != 0 || right != 0 ? 1 : 0;
                case AND:
                    return left != 0 && right != 0 ? 1 : 0;
                case LESS:
                    return left < right ? 1 : 0;
                case MORE:
                    return left > right ? 1 : 0;
                case SAME:
                    return left == right ? 1 : 0;
                case PLUS:
                    return left + right;
                case MINUS:
                    return left - right;
                case TIMES:
                    return left * right;
                case OVER:
                    return right == 0 ? 0 : left / right;
                case REST:
                    return right == 0 ? 0 : left % right;
                default:
                    return 0;
            }
        }
    }

    /** Reads a text in one go from left to right, so that the first fault it meets is the first by place. */
    private static final class Reader {
        private static final int NO_TOKEN = 1;
        private static final int MISPLACED = 2;
        private static final int TOLD_ALREADY = 3;
        private static final int BAD_NUMBER = 4;
        private static final int UNKNOWN = 5;

        // The kinds of words are their places in this text.
        private static final String WORDS =
            "cat room tenant likes dies draw wants heir of in hours warm fidgets stayed rooms quarter or and not ";
        private static final int WORD_COUNT = 19;
        private static final int CAT = 0;
        private static final int ROOM = 1;
        private static final int TENANT = 2;
        private static final int LIKES = 3;
        private static final int DIES = 4;
        private static final int DRAW = 5;
        private static final int WANTS = 6;
        private static final int HEIR = 7;
        private static final int OF = 8;
        private static final int IN = 9;
        private static final int HOURS = 10;
        private static final int WARM = 11;
        private static final int FIDGETS = 12;
        private static final int STAYED = 13;
        private static final int ROOMS = 14;
        private static final int QUARTER = 15;
        private static final int OR = 16;
        private static final int AND = 17;
        private static final int NOT = 18;

        // The kinds of signs are their bytes (37 and above); these are above all bytes.
        private static final String SIGNS = ";()<>=+-*/%";
        private static final int NAME = 256;
        private static final int NUMBER = 257;
        private static final int END = 258;
        private static final int NOTHING = 259;

        private static final int MAX_LETTERS = 8;
        private static final int MAX_DIGITS = 4;

        // What is read into; once it is the mews that counts, the former one is read into.
        Mews mews = new Mews();
        int fault = 0;
        int faultPlace = CatLeases.NONE;

        private final long[] words = new long[WORD_COUNT];
        private final long[] catNames = new long[MAX_CATS];
        private final long[] roomNames = new long[MAX_ROOMS];
        private final long[] tenantNames = new long[MAX_TENANTS];
        private byte[] text = new byte[0];
        private int length = 0;
        private int toldOnce = 0;

        private int at = 0;
        private int place = 0;
        private int kind = END;
        private int number = 0;
        private long word = 0;

        Reader() {
            int index = 0;
            long code = 0;
            for (int i = 0; i < WORDS.length(); i++) {
                if (WORDS.charAt(i) != ' ') {
                    code = joinLetter(code, WORDS.charAt(i));
                } else if (index < words.length) {
                    words[index] = code;
                    index++;
                    code = 0;
                }
            }
        }

        /** Eight letters of five bits each are one number, and no two words are the same one. */
        private static long joinLetter(long code, int letter) {
            return code * 32 + (letter - 'a' + 1);
        }

        boolean read(byte[] tape, int tapeLength) {
            text = tape;
            length = Math.min(tapeLength, tape.length);
            mews.empty();
            toldOnce = 0;
            fault = 0;
            faultPlace = CatLeases.NONE;
            at = 0;
            advance();
            boolean good = true;
            for (int lines = 0; lines <= length && good && kind != END; lines++) {
                good = readLine();
            }
            if (good) {
                finish();
            }
            return good;
        }

        private void finish() {
            mews.told.living = (1 << mews.cats) - 1;
            if ((toldOnce >> LIKES & 1) == 0) {
                mews.formula.addUntold();
            }
        }

        private boolean readLine() {
            switch (kind) {
                case CAT:
                    return readCat() && closeLine();
                case ROOM:
                    return readRoom() && closeLine();
                case TENANT:
                    return readTenant() && closeLine();
                case LIKES:
                    return readOnce() && readEither(0) && closeLine();
                case DIES:
                    return readOnce() && readDies() && closeLine();
                case DRAW:
                    return readOnce() && readDraw() && closeLine();
                default:
                    return refuse();
            }
        }

        private boolean readCat() {
            int cat = mews.cats;
            if (cat >= MAX_CATS) {
                return refuse();
            }
            advance();
            if (!readNewName(catNames, cat) || !readWord(WANTS) || !readNumber(MAX_WANTS)) {
                return false;
            }
            mews.wants[cat] = number;
            mews.heirs[cat] = CatLeases.NONE;
            if (follows(HEIR)) {
                int heir = readKnownName(catNames, cat);
                if (heir < 0) {
                    return false;
                }
                mews.heirs[cat] = heir;
            }
            mews.cats++;
            return true;
        }

        private boolean readRoom() {
            int room = mews.rooms;
            if (room >= MAX_ROOMS) {
                return refuse();
            }
            advance();
            if (!readNewName(roomNames, room)) {
                return false;
            }
            if (follows(OF)) {
                int cat = readKnownName(catNames, mews.cats);
                if (cat < 0) {
                    return false;
                }
                mews.told.keepers[room] = cat;
            }
            mews.rooms++;
            return true;
        }

        private boolean readTenant() {
            int tenant = mews.tenants;
            if (tenant >= MAX_TENANTS) {
                return refuse();
            }
            advance();
            if (!readNewName(tenantNames, tenant) || !readWord(HOURS) || !readNumber(MAX_HOURS)) {
                return false;
            }
            mews.told.hours[tenant] = number;
            mews.warmths[tenant] = 0;
            if (follows(WARM)) {
                if (!readNumber(MAX_WARM)) {
                    return false;
                }
                mews.warmths[tenant] = number;
            }
            if (follows(FIDGETS)) {
                if (!readNumber(MAX_FIDGETS)) {
                    return false;
                }
                mews.told.fidgets[tenant] = number;
            }
            if (follows(IN)) {
                int namePlace = place;
                int room = readKnownName(roomNames, mews.rooms);
                if (room < 0) {
                    return false;
                }
                if (mews.whoIsIn(mews.told, room) != CatLeases.NONE) {
                    return fail(TOLD_ALREADY, namePlace);
                }
                mews.told.places[tenant] = room;
            }
            mews.tenants++;
            return true;
        }

        private boolean readDies() {
            if (!readNumber(MAX_DIES)) {
                return false;
            }
            mews.dies = number;
            return true;
        }

        private boolean readDraw() {
            if (!readNumber(MAX_SEED)) {
                return false;
            }
            mews.told.seed = number;
            return true;
        }

        /** The first word of a line that may be told but once. */
        private boolean readOnce() {
            if ((toldOnce >> kind & 1) != 0) {
                return refuse();
            }
            toldOnce |= 1 << kind;
            advance();
            return true;
        }

        private boolean closeLine() {
            return readWord(';');
        }

        private boolean readWord(int wanted) {
            if (kind != wanted) {
                return refuse();
            }
            advance();
            return true;
        }

        private boolean follows(int wanted) {
            boolean is = kind == wanted;
            if (is) {
                advance();
            }
            return is;
        }

        /** The number stays at hand when the next token is read. */
        private boolean readNumber(int most) {
            if (kind != NUMBER) {
                return refuse();
            }
            if (number > most) {
                return fail(BAD_NUMBER, place);
            }
            int value = number;
            advance();
            number = value;
            return true;
        }

        private boolean readNewName(long[] names, int count) {
            if (kind != NAME || count >= names.length) {
                return refuse();
            }
            if (indexOfWord(names, count) != CatLeases.NONE) {
                return fail(TOLD_ALREADY, place);
            }
            names[count] = word;
            advance();
            return true;
        }

        private int readKnownName(long[] names, int count) {
            if (kind != NAME) {
                refuse();
                return CatLeases.NONE;
            }
            int index = indexOfWord(names, count);
            if (index == CatLeases.NONE) {
                fail(UNKNOWN, place);
                return CatLeases.NONE;
            }
            advance();
            return index;
        }

        private int indexOfWord(long[] names, int count) {
            for (int i = 0; i < count && i < names.length; i++) {
                if (names[i] == word) {
                    return i;
                }
            }
            return CatLeases.NONE;
        }

        private boolean refuse() {
            return fail(kind == NOTHING ? NO_TOKEN : MISPLACED, place);
        }

        private boolean fail(int what, int where) {
            fault = what;
            faultPlace = where;
            return false;
        }

        // ---- formulas: each loop takes a unit a turn, so there are never more turns than units ----

        private boolean readEither(int depth) {
            boolean good = readBoth(depth);
            for (int i = 0; i < Formula.MAX_UNITS && good && kind == OR; i++) {
                advance();
                good = readBoth(depth);
                mews.formula.addStep(Formula.OR);
            }
            return good;
        }

        private boolean readBoth(int depth) {
            boolean good = readOne(depth);
            for (int i = 0; i < Formula.MAX_UNITS && good && kind == AND; i++) {
                advance();
                good = readOne(depth);
                mews.formula.addStep(Formula.AND);
            }
            return good;
        }

        private boolean readOne(int depth) {
            if (kind == NOT) {
                if (depth >= Formula.MAX_DEPTH) {
                    return refuse();
                }
                advance();
                boolean good = readOne(depth + 1);
                mews.formula.addStep(Formula.NOT);
                return good;
            }
            if (!readSum(depth)) {
                return false;
            }
            int step = relation(kind);
            if (step == 0) {
                return true;
            }
            advance();
            boolean good = readSum(depth);
            mews.formula.addStep(step);
            return good;
        }

        private boolean readSum(int depth) {
            boolean good = readTerm(depth);
            for (int i = 0; i < Formula.MAX_UNITS && good && (kind == '+' || kind == '-'); i++) {
                int step = kind == '+' ? Formula.PLUS : Formula.MINUS;
                advance();
                good = readTerm(depth);
                mews.formula.addStep(step);
            }
            return good;
        }

        private boolean readTerm(int depth) {
            boolean good = readUnit(depth);
            for (int i = 0; i < Formula.MAX_UNITS && good && multiplying(kind) != 0; i++) {
                int step = multiplying(kind);
                advance();
                good = readUnit(depth);
                mews.formula.addStep(step);
            }
            return good;
        }

        // Only one formula is told, so that its own limit is met ahead of the limit of all.
        private boolean readUnit(int depth) {
            if (mews.units >= Formula.MAX_UNITS) {
                return refuse();
            }
            if (kind == '(') {
                return readParentheses(depth);
            }
            int term = termOf(kind);
            if (term != CatLeases.NONE) {
                mews.formula.addTerm(term);
            } else if (kind == NUMBER) {
                mews.formula.addNumber(number);
            } else {
                return refuse();
            }
            mews.units++;
            advance();
            return true;
        }

        private boolean readParentheses(int depth) {
            if (depth >= Formula.MAX_DEPTH) {
                return refuse();
            }
            mews.units++;
            advance();
            return readEither(depth + 1) && readWord(')');
        }

        private static int relation(int sign) {
            switch (sign) {
                case '<':
                    return Formula.LESS;
                case '>':
                    return Formula.MORE;
                case '=':
                    return Formula.SAME;
                default:
                    return 0;
            }
        }

        private static int multiplying(int sign) {
            switch (sign) {
                case '*':
                    return Formula.TIMES;
                case '/':
                    return Formula.OVER;
                case '%':
                    return Formula.REST;
                default:
                    return 0;
            }
        }

        private static int termOf(int kind) {
            switch (kind) {
                case HOURS:
                    return Formula.HOURS;
                case WANTS:
                    return Formula.WANTS;
                case WARM:
                    return Formula.WARM;
                case FIDGETS:
                    return Formula.FIDGETS;
                case STAYED:
                    return Formula.STAYED;
                case ROOMS:
                    return Formula.ROOMS;
                case QUARTER:
                    return Formula.QUARTER;
                default:
                    return CatLeases.NONE;
            }
        }

        // ---- tokens ----

        private void advance() {
            for (int i = 0; i < MAX_TEXT && isBlank(byteAt(at)); i++) {
                at++;
            }
            place = at;
            int first = byteAt(at);
            if (first < 0) {
                kind = END;
            } else if (isLetter(first)) {
                takeWord();
            } else if (isDigit(first)) {
                takeNumber();
            } else if (SIGNS.indexOf((char) first) >= 0) {
                kind = first;
                at++;
            } else {
                kind = NOTHING;
            }
        }

        private void takeWord() {
            long code = 0;
            for (int i = 0; i < MAX_TEXT && isLetter(byteAt(at)); i++) {
                code = joinLetter(code, byteAt(at));
                at++;
            }
            word = code;
            if (at - place > MAX_LETTERS) {
                kind = NOTHING;
            } else {
                int index = indexOfWord(words, words.length);
                kind = index == CatLeases.NONE ? NAME : index;
            }
        }

        private void takeNumber() {
            int value = 0;
            for (int i = 0; i < MAX_TEXT && isDigit(byteAt(at)); i++) {
                value = value * 10 + (byteAt(at) - '0');
                at++;
            }
            number = value;
            kind = at - place > MAX_DIGITS || isLetter(byteAt(at)) ? NOTHING : NUMBER;
        }

        private int byteAt(int index) {
            return index >= 0 && index < length && index < text.length ? text[index] & 255 : CatLeases.NONE;
        }

        private static boolean isBlank(int sign) {
            return sign == 32 || sign == 10;
        }

        private static boolean isLetter(int sign) {
            return sign >= 'a' && sign <= 'z';
        }

        private static boolean isDigit(int sign) {
            return sign >= '0' && sign <= '9';
        }
    }

    /** The states ahead of and behind the acts that are kept, in a ring. */
    private static final class Acts {
        private static final int SIZE = KEPT_ACTS + 1;

        int undoable = 0;
        int redoable = 0;
        private final State[] states = new State[SIZE];
        private int index = 0;

        Acts() {
            for (int i = 0; i < SIZE; i++) {
                states[i] = new State();
            }
        }

        State current() {
            return states[index];
        }

        /** A copy of what is now, for an act to change: it is what is now from here on. */
        State begin() {
            State former = states[index];
            index = (index + 1) % SIZE;
            states[index].copyOf(former);
            undoable = Math.min(KEPT_ACTS, undoable + 1);
            redoable = 0;
            return states[index];
        }

        boolean stepBack() {
            if (undoable == 0) {
                return false;
            }
            index = (index + SIZE - 1) % SIZE;
            undoable--;
            redoable++;
            return true;
        }

        boolean stepForth() {
            if (redoable == 0) {
                return false;
            }
            index = (index + 1) % SIZE;
            undoable++;
            redoable--;
            return true;
        }

        void startFrom(State state) {
            states[index].copyOf(state);
            undoable = 0;
            redoable = 0;
        }
    }

    /** The best letting of all: for each tenant and each set of rooms that are taken, what the rest can make. */
    private static final class Letting {
        // One tenant more counts above all that liking can add up to.
        private static final int ONE_MORE = 100000;
        private static final int SETS = 1 << MAX_ROOMS;

        private final int[] worths = new int[MAX_TENANTS * MAX_ROOMS];
        private final int[] best = new int[(MAX_TENANTS + 1) * SETS];
        private int tenants = 0;
        private int rooms = 0;

        void solve(Mews mews, State state) {
            tenants = mews.tenants;
            rooms = mews.rooms;
            weigh(mews, state);
            int sets = 1 << rooms;
            for (int taken = 0; taken < sets; taken++) {
                best[tenants * SETS + taken] = 0;
            }
            for (int tenant = tenants - 1; tenant >= 0; tenant--) {
                for (int taken = 0; taken < sets; taken++) {
                    best[tenant * SETS + taken] = bestFor(tenant, taken);
                }
            }
        }

        private void weigh(Mews mews, State state) {
            for (int tenant = 0; tenant < tenants; tenant++) {
                for (int room = 0; room < rooms; room++) {
                    int liking = state.isKept(room) ? mews.likes(state, tenant, room) : 0;
                    worths[tenant * MAX_ROOMS + room] = Math.max(0, Math.min(MAX_ADDED, liking));
                }
            }
        }

        private int bestFor(int tenant, int taken) {
            int most = best[(tenant + 1) * SETS + taken];
            for (int room = 0; room < rooms; room++) {
                most = Math.max(most, withRoom(tenant, taken, room));
            }
            return most;
        }

        /** What a tenant and those behind him make if he has that room; NONE if he can't. */
        private int withRoom(int tenant, int taken, int room) {
            int worth = worths[tenant * MAX_ROOMS + room];
            if (worth == 0 || (taken >> room & 1) != 0) {
                return NONE;
            }
            return best[(tenant + 1) * SETS + (taken | 1 << room)] + ONE_MORE + worth;
        }

        int count() {
            return best[0] / ONE_MORE;
        }

        int together() {
            return best[0] % ONE_MORE;
        }

        /** The first of the best: each tenant in turn takes the least room by which nothing is lost. */
        void tell(int[] where, int size) {
            int taken = 0;
            for (int tenant = 0; tenant < tenants && tenant < size && tenant < where.length; tenant++) {
                where[tenant] = NONE;
                for (int room = 0; room < rooms && where[tenant] == NONE; room++) {
                    if (withRoom(tenant, taken, room) == best[tenant * SETS + taken]) {
                        where[tenant] = room;
                    }
                }
                if (where[tenant] != NONE) {
                    taken |= 1 << where[tenant];
                }
            }
        }
    }

    /** Two who bid for one room. */
    private static final class Auction {
        int firstBid = 0;
        int otherBid = 0;
        private final int[] firstLikings = new int[MAX_BID + 1];
        private final int[] otherLikings = new int[MAX_BID + 1];
        private int firstMost = 0;
        private int otherMost = 0;

        void open(Mews mews, State state, int room, int first, int other) {
            firstMost = weigh(mews, state, room, first, firstLikings);
            otherMost = weigh(mews, state, room, other, otherLikings);
        }

        /** Tells the likings by each bid, and the highest bid that his hours leave him. */
        private static int weigh(Mews mews, State state, int room, int tenant, int[] likings) {
            int hours = state.hours[tenant];
            int most = Math.min(MAX_BID, MAX_HOURS - hours);
            mews.consider(state, tenant, room);
            for (int bid = 0; bid <= most && bid < likings.length; bid++) {
                likings[bid] = mews.likesBy(Formula.HOURS, hours + bid);
            }
            return most;
        }

        int countRests() {
            int count = 0;
            for (int first = 0; first <= firstMost; first++) {
                for (int other = 0; other <= otherMost; other++) {
                    if (isRest(first, other)) {
                        if (count == 0) {
                            firstBid = first;
                            otherBid = other;
                        }
                        count++;
                    }
                }
            }
            return count;
        }

        private boolean isRest(int first, int other) {
            boolean firstHas = hasFirst(first, other);
            for (int bid = 0; bid <= firstMost; bid++) {
                if (isBetter(hasFirst(bid, other), bid, firstHas, first)) {
                    return false;
                }
            }
            boolean otherHas = hasOther(first, other);
            for (int bid = 0; bid <= otherMost; bid++) {
                if (isBetter(hasOther(first, bid), bid, otherHas, other)) {
                    return false;
                }
            }
            return true;
        }

        private static boolean isBetter(boolean has, int bid, boolean hadBefore, int bidBefore) {
            return has == hadBefore ? bid < bidBefore : has;
        }

        private boolean hasFirst(int first, int other) {
            return firstLikings[first] > 0 && firstLikings[first] >= otherLikings[other];
        }

        private boolean hasOther(int first, int other) {
            return otherLikings[other] > 0 && otherLikings[other] > firstLikings[first];
        }
    }

    /** What is seen, and what would have been seen by each of the last cat's wants. */
    private static final class Sightings {
        private static final int WANTS = MAX_WANTS + 1;

        int count = 0;
        private final int[] quarters = new int[MAX_SEEN];
        private final int[] tenants = new int[MAX_SEEN];
        private final boolean[] inside = new boolean[MAX_SEEN];
        private final int[] toldAt = new int[MAX_SEEN];
        private final int[] untoldAt = new int[MAX_SEEN];
        private final int[] outBehind = new int[WANTS * MAX_TENANTS];
        private boolean foreseen = false;
        private boolean anyCats = false;

        void forget() {
            count = 0;
            foreseen = false;
        }

        int add(int quarter, int tenant, boolean is, int time) {
            if (count >= MAX_SEEN) {
                return NONE;
            }
            quarters[count] = quarter;
            tenants[count] = tenant;
            inside[count] = is;
            toldAt[count] = time;
            untoldAt[count] = NONE;
            count++;
            return count - 1;
        }

        boolean takeBack(int index, int time) {
            if (index < 0 || index >= count || untoldAt[index] != NONE) {
                return false;
            }
            untoldAt[index] = time;
            return true;
        }

        /** Done once a mews, when it is first asked for: only the mews as it was told matters. */
        void foresee(Mews mews) {
            if (foreseen) {
                return;
            }
            foreseen = true;
            anyCats = mews.cats > 0;
            for (int tenant = 0; tenant < mews.tenants; tenant++) {
                int room = mews.told.places[tenant];
                boolean isLastCats = mews.told.isKept(room) && mews.told.keepers[room] == mews.cats - 1;
                int known = mews.outBehind(mews.told, tenant, MAX_SEEN_QUARTER);
                for (int wants = 0; wants < WANTS; wants++) {
                    outBehind[wants * MAX_TENANTS + tenant] = isLastCats
                        ? mews.outBehindAtWants(mews.told, tenant, wants, MAX_SEEN_QUARTER)
                        : known;
                }
            }
        }

        boolean allow(int wants, int k) {
            for (int i = 0; i < count; i++) {
                if (counts(i, k) && isInside(wants, tenants[i], quarters[i]) != inside[i]) {
                    return false;
                }
            }
            return anyCats;
        }

        /** By how many of the wants that are allowed a tenant was in a room. */
        int countInside(int tenant, int quarter, int k) {
            int sum = 0;
            for (int wants = 0; wants < WANTS; wants++) {
                if (isInside(wants, tenant, quarter) && allow(wants, k)) {
                    sum++;
                }
            }
            return sum;
        }

        private boolean counts(int index, int k) {
            return toldAt[index] <= k && (untoldAt[index] == NONE || untoldAt[index] > k);
        }

        private boolean isInside(int wants, int tenant, int quarter) {
            return outBehind[wants * MAX_TENANTS + tenant] > quarter;
        }
    }
}
