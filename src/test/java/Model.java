import java.math.BigInteger;
import java.util.ArrayList;
import java.util.HashMap;
import java.util.List;
import java.util.Map;

/**
 * The document once more, slow and plain, for ModelTest to hold the class against: whole quarters are
 * gone through where the class takes a short cut, all lettings are tried, states are copied as wholes.
 */
public final class Model {
    static final int NONE = -1;

    static final class Fault extends RuntimeException {
        final int what;
        final int where;

        Fault(int what, int where) {
            super(what + " at " + where);
            this.what = what;
            this.where = where;
        }
    }

    record Token(String text, int place) {}

    interface Tree {
        int value(Map<String, Integer> terms);
    }

    static final class Cat { int wants; int heir = NONE; }

    static final class Told {
        final Map<String, Integer> catNames = new HashMap<>();
        final Map<String, Integer> roomNames = new HashMap<>();
        final Map<String, Integer> tenantNames = new HashMap<>();
        final List<Cat> cats = new ArrayList<>();
        final List<Integer> warm = new ArrayList<>();
        Tree likes;
        int units;
        int dies;
        World first = new World();
    }

    static final class World {
        List<Integer> keeper = new ArrayList<>();
        List<Integer> place = new ArrayList<>();
        List<Integer> stayed = new ArrayList<>();
        List<Integer> hours = new ArrayList<>();
        List<Integer> fidgets = new ArrayList<>();
        List<Boolean> lives = new ArrayList<>();
        int quarter;
        int seed;

        World copy() {
            World w = new World();
            w.keeper.addAll(keeper);
            w.place.addAll(place);
            w.stayed.addAll(stayed);
            w.hours.addAll(hours);
            w.fidgets.addAll(fidgets);
            w.lives.addAll(lives);
            w.quarter = quarter;
            w.seed = seed;
            return w;
        }
    }

    // ---- reading ----

    static final String WORDS = " cat wants heir room of tenant hours warm fidgets in likes dies draw or and not stayed rooms quarter ";

    static final class Reading {
        final String text;
        final Told told = new Told();
        int at;
        Token token;
        boolean likes, dies, draw;

        Reading(String text) {
            this.text = text;
        }

        boolean letter(int i) { return i < text.length() && text.charAt(i) >= 'a' && text.charAt(i) <= 'z'; }
        boolean digit(int i) { return i < text.length() && text.charAt(i) >= '0' && text.charAt(i) <= '9'; }

        void next() {
            while (at < text.length() && (text.charAt(at) == ' ' || text.charAt(at) == '\n')) at++;
            int from = at;
            if (at == text.length()) { token = new Token("", at); return; }
            if (letter(at)) {
                while (letter(at)) at++;
                if (at - from > 8) throw new Fault(1, from);
            } else if (digit(at)) {
                while (digit(at)) at++;
                if (at - from > 4 || letter(at)) throw new Fault(1, from);
            } else if (";()<>=+-*/%".indexOf(text.charAt(at)) >= 0) {
                at++;
            } else {
                throw new Fault(1, from);
            }
            token = new Token(text.substring(from, at), from);
        }

        boolean is(String s) { return token.text().equals(s); }
        boolean isNumber() { return !token.text().isEmpty() && Character.isDigit(token.text().charAt(0)); }
        boolean isName() {
            return !token.text().isEmpty() && Character.isLetter(token.text().charAt(0))
                && !WORDS.contains(" " + token.text() + " ");
        }
        Fault misplaced() { return new Fault(2, token.place()); }
        void take(String s) { if (!is(s)) throw misplaced(); next(); }
        boolean maybe(String s) { if (!is(s)) return false; next(); return true; }

        int number(int most) {
            if (!isNumber()) throw misplaced();
            int n = Integer.parseInt(token.text());
            if (n > most) throw new Fault(4, token.place());
            next();
            return n;
        }

        String newName(Map<String, Integer> names) {
            if (!isName()) throw misplaced();
            if (names.containsKey(token.text())) throw new Fault(3, token.place());
            String name = token.text();
            next();
            return name;
        }

        Told read() {
            next();
            while (!is("")) {
                line();
                take(";");
            }
            return told;
        }

        void line() {
            if (is("cat") && told.cats.size() < 6) cat();
            else if (is("room") && told.first.keeper.size() < 8) room();
            else if (is("tenant") && told.first.place.size() < 7) tenant();
            else if (is("likes") && !likes) { likes = true; next(); told.likes = e(0); }
            else if (is("dies") && !dies) { dies = true; next(); told.dies = number(100); }
            else if (is("draw") && !draw) { draw = true; next(); told.first.seed = number(999); }
            else throw misplaced();
        }

        void cat() {
            next();
            Cat cat = new Cat();
            String name = newName(told.catNames);
            take("wants");
            cat.wants = number(99);
            if (maybe("heir")) {
                if (!isName()) throw misplaced();
                if (!told.catNames.containsKey(token.text())) throw new Fault(5, token.place());
                cat.heir = told.catNames.get(token.text());
                next();
            }
            told.catNames.put(name, told.cats.size());
            told.cats.add(cat);
            told.first.lives.add(true);
        }

        void room() {
            next();
            String name = newName(told.roomNames);
            int keeper = NONE;
            if (maybe("of")) {
                if (!isName()) throw misplaced();
                if (!told.catNames.containsKey(token.text())) throw new Fault(5, token.place());
                keeper = told.catNames.get(token.text());
                next();
            }
            told.roomNames.put(name, told.first.keeper.size());
            told.first.keeper.add(keeper);
        }

        void tenant() {
            next();
            String name = newName(told.tenantNames);
            take("hours");
            int hours = number(99);
            int warm = maybe("warm") ? number(9) : 0;
            int fidgets = maybe("fidgets") ? number(9) : 0;
            int place = NONE;
            if (maybe("in")) {
                if (!isName()) throw misplaced();
                if (!told.roomNames.containsKey(token.text())) throw new Fault(5, token.place());
                place = told.roomNames.get(token.text());
                if (told.first.place.contains(place)) throw new Fault(3, token.place());
                next();
            }
            told.tenantNames.put(name, told.first.place.size());
            told.first.place.add(place);
            told.first.stayed.add(0);
            told.first.hours.add(hours);
            told.first.fidgets.add(fidgets);
            told.warm.add(warm);
        }

        Tree e(int depth) {
            Tree left = both(depth);
            while (maybe("or")) {
                Tree a = left, b = both(depth);
                left = t -> a.value(t) != 0 | b.value(t) != 0 ? 1 : 0;
            }
            return left;
        }

        Tree both(int depth) {
            Tree left = one(depth);
            while (maybe("and")) {
                Tree a = left, b = one(depth);
                left = t -> a.value(t) != 0 & b.value(t) != 0 ? 1 : 0;
            }
            return left;
        }

        Tree one(int depth) {
            if (is("not")) {
                if (depth > 6) throw misplaced();
                next();
                Tree a = one(depth + 1);
                return t -> a.value(t) == 0 ? 1 : 0;
            }
            Tree a = sum(depth);
            if (maybe("<")) { Tree b = sum(depth); return t -> a.value(t) < b.value(t) ? 1 : 0; }
            if (maybe(">")) { Tree b = sum(depth); return t -> a.value(t) > b.value(t) ? 1 : 0; }
            if (maybe("=")) { Tree b = sum(depth); return t -> a.value(t) == b.value(t) ? 1 : 0; }
            return a;
        }

        Tree sum(int depth) {
            Tree left = term(depth);
            while (is("+") || is("-")) {
                boolean plus = is("+");
                next();
                Tree a = left, b = term(depth);
                left = plus ? t -> a.value(t) + b.value(t) : t -> a.value(t) - b.value(t);
            }
            return left;
        }

        Tree term(int depth) {
            Tree left = unit(depth);
            while (is("*") || is("/") || is("%")) {
                char sign = token.text().charAt(0);
                next();
                Tree a = left, b = unit(depth);
                left = t -> {
                    int x = a.value(t), y = b.value(t);
                    return sign == '*' ? x * y : y == 0 ? 0 : sign == '/' ? x / y : x % y;
                };
            }
            return left;
        }

        Tree unit(int depth) {
            boolean term = " hours wants warm fidgets stayed rooms quarter ".contains(" " + token.text() + " ") && !is("");
            if (!term && !isNumber() && !is("(")) throw misplaced();
            if (told.units == 30) throw misplaced();
            if (is("(") && depth > 6) throw misplaced();
            told.units++;
            String text = token.text();
            boolean number = isNumber();
            next();
            if (number) { int n = Integer.parseInt(text); return t -> n; }
            if (term) return t -> t.get(text);
            Tree inside = e(depth + 1);
            take(")");
            return inside;
        }
    }

    // ---- what is kept ----

    private StringBuilder tape = new StringBuilder();
    private Told told = new Told();
    private int fault = 0, faultPlace = NONE;
    private List<World> past = new ArrayList<>();
    private List<World> future = new ArrayList<>();
    private World now = new World();
    private World[] boxes = new World[3];
    private List<Integer> lying = new ArrayList<>();
    private int time = 0;

    record Seen(int quarters, int tenant, boolean is, int told, int[] untold) {}
    private final List<Seen> seen = new ArrayList<>();

    public int feed(int a, int b, int c, int d, int e) {
        if (tape.length() > 1580) return NONE;
        for (int n : new int[] {a, b, c, d, e}) {
            tape.append((char) (n >> 24 & 255)).append((char) (n >> 16 & 255)).append((char) (n >> 8 & 255)).append((char) (n & 255));
        }
        return tape.length();
    }

    public int end(int n) {
        if (n < 0 || n > tape.length()) return NONE;
        tape.setLength(n);
        return n;
    }

    public int mews() {
        try {
            told = new Reading(tape.toString()).read();
        } catch (Fault f) {
            fault = f.what;
            faultPlace = f.where;
            return NONE;
        }
        fault = 0;
        faultPlace = NONE;
        tape = new StringBuilder();
        now = told.first.copy();
        past.clear();
        future.clear();
        boxes = new World[3];
        lying.clear();
        seen.clear();
        return tenants();
    }

    public int fault(int what) { return what == 0 ? fault : what == 1 ? faultPlace : NONE; }

    int cats() { return told.cats.size(); }
    int rooms() { return told.first.keeper.size(); }
    int tenants() { return told.first.place.size(); }
    boolean isCat(int c) { return c >= 0 && c < cats(); }
    boolean isRoom(int r) { return r >= 0 && r < rooms(); }
    boolean isTenant(int t) { return t >= 0 && t < tenants(); }

    int kept(World w, int cat) {
        int n = 0;
        for (int k : w.keeper) if (k == cat) n++;
        return n;
    }

    Map<String, Integer> terms(World w, int tenant, int room, int lastWants) {
        int cat = w.keeper.get(room);
        Map<String, Integer> t = new HashMap<>();
        t.put("hours", w.hours.get(tenant));
        t.put("wants", lastWants >= 0 && cat == cats() - 1 ? lastWants : told.cats.get(cat).wants);
        t.put("warm", told.warm.get(tenant));
        t.put("fidgets", w.fidgets.get(tenant));
        t.put("stayed", w.place.get(tenant) == room ? w.stayed.get(tenant) : 0);
        t.put("rooms", kept(w, cat));
        t.put("quarter", w.quarter);
        return t;
    }

    int value(Map<String, Integer> t) {
        if (told.likes != null) return told.likes.value(t);
        return t.get("hours") - t.get("wants") + t.get("warm") * 3 - t.get("fidgets");
    }

    int likes(World w, int tenant, int room) { return value(terms(w, tenant, room, -1)); }
    boolean isKept(World w, int room) { return room >= 0 && w.keeper.get(room) >= 0; }
    int added(int liking) { return Math.max(-9999, Math.min(9999, liking)); }

    public int cat(int cat, int what) {
        if (!isCat(cat)) return -2;
        int rooms = 0, in = 0;
        for (int r = 0; r < rooms(); r++) {
            if (now.keeper.get(r) == cat) {
                rooms |= 1 << r;
                for (int t = 0; t < tenants(); t++) if (now.place.get(t) == r) in |= 1 << t;
            }
        }
        return switch (what) {
            case 0 -> now.lives.get(cat) ? 1 : 0;
            case 1 -> told.cats.get(cat).wants;
            case 2 -> told.cats.get(cat).heir;
            case 3 -> rooms;
            case 4 -> in;
            default -> -2;
        };
    }

    public int room(int room, int what) {
        if (!isRoom(room) || what < 0 || what > 1) return -2;
        return what == 0 ? now.keeper.get(room) : now.place.indexOf(room);
    }

    public int tenant(int t, int what) {
        if (!isTenant(t)) return -2;
        return switch (what) {
            case 0 -> now.place.get(t);
            case 1 -> now.hours.get(t);
            case 2 -> told.warm.get(t);
            case 3 -> now.fidgets.get(t);
            case 4 -> now.stayed.get(t);
            default -> -2;
        };
    }

    public int liking(int t, int r) {
        return !isTenant(t) || !isRoom(r) || !isKept(now, r) ? -1000000000 : likes(now, t, r);
    }

    // ---- going on ----

    int pass(World w, boolean deaths, int lastWants) {
        int out = 0;
        for (int t = 0; t < tenants(); t++) {
            int r = w.place.get(t);
            if (isKept(w, r) && value(terms(w, t, r, lastWants)) <= 0) out |= 1 << t;
        }
        for (int t = 0; t < tenants(); t++) {
            if ((out >> t & 1) == 1) {
                w.place.set(t, NONE);
                w.stayed.set(t, 0);
            } else if (w.place.get(t) >= 0) {
                w.stayed.set(t, Math.min(999, w.stayed.get(t) + 1));
            }
        }
        if (deaths) {
            int dead = 0;
            for (int c = 0; c < cats(); c++) {
                if (!w.lives.get(c)) continue;
                w.seed = (w.seed * 137 + 71) % 1000;
                if (w.seed % 100 < told.dies) dead |= 1 << c;
            }
            die(w, dead);
        }
        w.quarter++;
        return out;
    }

    void die(World w, int set) {
        for (int c = 0; c < cats(); c++) if ((set >> c & 1) == 1) w.lives.set(c, false);
        for (int r = 0; r < rooms(); r++) {
            int c = w.keeper.get(r);
            while (c >= 0 && !w.lives.get(c)) c = told.cats.get(c).heir;
            w.keeper.set(r, c);
        }
    }

    World act() {
        past.add(now);
        if (past.size() > 40) past.remove(0);
        future.clear();
        now = now.copy();
        return now;
    }

    public int quarter() { return now.quarter >= 999 ? NONE : pass(act(), true, -1); }

    void put(World w, int t, int r) {
        w.place.set(t, r);
        w.stayed.set(t, 0);
    }

    public int move(int t, int r) {
        if (!isTenant(t) || !isRoom(r) || now.place.contains(r)) return -2;
        int was = now.place.get(t);
        put(act(), t, r);
        return was;
    }

    public int leave(int t) {
        if (!isTenant(t) || now.place.get(t) < 0) return NONE;
        int was = now.place.get(t);
        put(act(), t, NONE);
        return was;
    }

    public int exchange(int t, int o) {
        if (!isTenant(t) || !isTenant(o) || t == o || now.place.get(t) < 0 || now.place.get(o) < 0) return NONE;
        int a = now.place.get(t), b = now.place.get(o);
        World w = act();
        put(w, t, b);
        put(w, o, a);
        return b;
    }

    public int claim(int r, int c) {
        if (!isRoom(r) || !isCat(c) || now.keeper.get(r) >= 0 || !now.lives.get(c)) return NONE;
        act().keeper.set(r, c);
        return kept(now, c);
    }

    public int spend(int t, int h) {
        if (!isTenant(t) || h < 0 || h > 99 || now.hours.get(t) == h) return NONE;
        int was = now.hours.get(t);
        act().hours.set(t, h);
        return was;
    }

    public int calm(int t, int f) {
        if (!isTenant(t) || f < 0 || f > 9 || now.fidgets.get(t) == f) return NONE;
        int was = now.fidgets.get(t);
        act().fidgets.set(t, f);
        return was;
    }

    public boolean undo() {
        if (past.isEmpty()) return false;
        future.add(now);
        now = past.remove(past.size() - 1);
        return true;
    }

    public boolean redo() {
        if (future.isEmpty()) return false;
        past.add(now);
        now = future.remove(future.size() - 1);
        return true;
    }

    // ---- asking ----

    World behind(World from, int n, boolean deaths) {
        World w = from.copy();
        for (int i = 0; i < n; i++) pass(w, deaths, -1);
        return w;
    }

    public int will(int t, int n, int what) {
        if (!isTenant(t) || n < 0 || n > 60 || what < 0 || what > 1) return -2;
        return behind(now, n, what == 1).place.get(t);
    }

    int outBehind(World from, int t) {
        World w = from.copy();
        for (int n = 0; n <= 99; n++) {
            if (w.place.get(t) < 0) return n;
            pass(w, false, -1);
        }
        return NONE;
    }

    public int lasts(int t) { return isTenant(t) ? outBehind(now, t) : NONE; }
    public int shaky() { return pass(now.copy(), false, -1); }

    int bestCount, bestSum;
    List<Integer> bestLet;

    void letAll(List<Integer> let, int count, int sum) {
        if (let.size() == tenants()) {
            if (bestLet == null || count > bestCount || count == bestCount && sum > bestSum) {
                bestLet = new ArrayList<>(let);
                bestCount = count;
                bestSum = sum;
            }
            return;
        }
        int t = let.size();
        for (int r = 0; r <= rooms(); r++) {
            boolean nowhere = r == rooms();
            if (!nowhere && (let.contains(r) || !isKept(now, r) || likes(now, t, r) <= 0)) continue;
            let.add(nowhere ? NONE : r);
            if (nowhere) letAll(let, count, sum);
            else letAll(let, count + 1, sum + added(likes(now, t, r)));
            let.remove(let.size() - 1);
        }
    }

    void findLet() {
        bestLet = null;
        letAll(new ArrayList<>(), 0, 0);
    }

    public int letting() {
        findLet();
        lying = new ArrayList<>(bestLet);
        return bestCount;
    }

    public int pleasure() {
        findLet();
        return bestSum;
    }

    public int swaps(int what) {
        List<int[]> twos = new ArrayList<>();
        for (int a = 0; a < tenants(); a++) {
            for (int b = a + 1; b < tenants(); b++) {
                int ra = now.place.get(a), rb = now.place.get(b);
                if (!isKept(now, ra) || !isKept(now, rb)) continue;
                World w = now.copy();
                put(w, a, rb);
                put(w, b, ra);
                if (likes(w, a, rb) > likes(now, a, ra) && likes(w, b, ra) > likes(now, b, rb)) twos.add(new int[] {a, b});
            }
        }
        if (what == 0) return twos.size();
        return twos.isEmpty() || what < 0 || what > 2 ? NONE : twos.get(0)[what - 1];
    }

    public int pay(int t) {
        if (!isTenant(t) || !isKept(now, now.place.get(t))) return NONE;
        World w = now.copy();
        for (int h = 0; h <= 99; h++) {
            w.hours.set(t, h);
            if (likes(w, t, w.place.get(t)) > 0) return h;
        }
        return NONE;
    }

    public int borne(int t) {
        if (!isTenant(t) || !isKept(now, now.place.get(t))) return NONE;
        World w = now.copy();
        int most = NONE;
        for (int f = 0; f <= 9; f++) {
            w.fidgets.set(t, f);
            if (likes(w, t, w.place.get(t)) > 0) most = f;
        }
        return most;
    }

    boolean areCats(int set) { return set >= 0 && set >> cats() == 0; }

    public int keeper(int r, int set) {
        if (!isRoom(r) || !areCats(set)) return -2;
        World w = now.copy();
        die(w, set);
        return w.keeper.get(r);
    }

    public int probate(int set) {
        if (!areCats(set)) return NONE;
        World w = now.copy();
        die(w, set);
        return kept(w, NONE);
    }

    int out(World w) {
        int n = 0;
        for (int p : w.place) if (p < 0) n++;
        return n;
    }

    public int grief(int c, int n) {
        if (!isCat(c) || !now.lives.get(c) || n < 0 || n > 20) return -1000;
        World w = now.copy();
        die(w, 1 << c);
        return out(behind(w, n, false)) - out(behind(now, n, false));
    }

    int taken(int t, int o, int r, int a, int b) {
        World w = now.copy();
        w.hours.set(t, Math.min(99, w.hours.get(t) + a));
        w.hours.set(o, Math.min(99, w.hours.get(o) + b));
        int x = likes(w, t, r), y = likes(w, o, r);
        if (Math.max(x, y) <= 0) return NONE;
        return x >= y ? t : o;
    }

    public int bid(int t, int o, int r) {
        lying.clear();
        if (!isTenant(t) || !isTenant(o) || t == o || !isRoom(r)) return NONE;
        if (now.place.get(t) >= 0 || now.place.get(o) >= 0 || now.place.contains(r) || !isKept(now, r)) return NONE;
        int rests = 0;
        for (int a = 0; a <= 5; a++) {
            for (int b = 0; b <= 5; b++) {
                int score = (taken(t, o, r, a, b) == t ? 100 : 0) - a;
                int otherScore = (taken(t, o, r, a, b) == o ? 100 : 0) - b;
                boolean rest = true;
                for (int d = 0; d <= 5; d++) {
                    if ((taken(t, o, r, d, b) == t ? 100 : 0) - d > score) rest = false;
                    if ((taken(t, o, r, a, d) == o ? 100 : 0) - d > otherScore) rest = false;
                }
                if (rest && rests++ == 0) {
                    lying.add(a);
                    lying.add(b);
                }
            }
        }
        return rests;
    }

    public int haven(int t, int what) {
        if (!isTenant(t) || what < 0 || what > 1) return NONE;
        int best = NONE, longest = NONE;
        for (int r = 0; r < rooms(); r++) {
            World w = now.copy();
            if (w.place.get(t) != r) {
                if (w.place.contains(r)) continue;
                put(w, t, r);
            }
            int n = outBehind(w, t);
            if (n < 0) n = 99;
            if (n > longest) {
                longest = n;
                best = r;
            }
        }
        return what == 0 ? best : longest;
    }

    public int crowd(int c) {
        if (!isCat(c) || !now.lives.get(c)) return NONE;
        int most = NONE;
        for (int n = 0; n <= 8; n++) {
            boolean all = true;
            for (int t = 0; t < tenants(); t++) {
                int r = now.place.get(t);
                if (!isKept(now, r) || now.keeper.get(r) != c) continue;
                Map<String, Integer> terms = terms(now, t, r, -1);
                terms.put("rooms", n);
                all &= value(terms) > 0;
            }
            if (all) most = n;
        }
        return most;
    }

    public int fondest() {
        int best = NONE, most = 0;
        for (int c = 0; c < cats(); c++) {
            int sum = 0, n = 0;
            for (int t = 0; t < tenants(); t++) {
                int r = now.place.get(t);
                if (!isKept(now, r) || now.keeper.get(r) != c) continue;
                sum += added(likes(now, t, r));
                n++;
            }
            if (n > 0 && (best < 0 || sum > most)) {
                best = c;
                most = sum;
            }
        }
        return best;
    }

    public int nobodys() {
        int bits = 0;
        for (int t = 0; t < tenants(); t++) {
            boolean liked = false;
            for (int r = 0; r < rooms(); r++) liked |= isKept(now, r) && likes(now, t, r) > 0;
            if (!liked) bits |= 1 << t;
        }
        return bits;
    }

    public int housed(int n) { return n < 0 || n > 60 ? NONE : tenants() - out(behind(now, n, false)); }

    public int law(int n) {
        if (n < 0 || n > 99) return NONE;
        int count = 0;
        for (int t = 0; t < tenants(); t++) {
            int r = now.place.get(t);
            if (!isKept(now, r)) continue;
            Map<String, Integer> terms = terms(now, t, r, -1);
            terms.put("wants", n);
            if (value(terms) <= 0) count++;
        }
        return count;
    }

    public int purse(int c) {
        if (!isCat(c)) return -1000000;
        int sum = 0;
        for (int t = 0; t < tenants(); t++) {
            int r = now.place.get(t);
            if (isKept(now, r) && now.keeper.get(r) == c) sum += now.hours.get(t) - told.cats.get(c).wants;
        }
        return sum;
    }

    public int odds(int c, int n, int part) {
        if (!isCat(c) || !now.lives.get(c) || n < 0 || n > 4 || part < 0 || part > 1) return NONE;
        BigInteger up = BigInteger.valueOf(100 - told.dies).pow(n), low = BigInteger.valueOf(100).pow(n);
        return (part == 0 ? up : low).divide(up.gcd(low)).intValueExact();
    }

    public int lies(int i) { return i >= 0 && i < lying.size() ? lying.get(i) : -2; }

    public int seen(int q, int t, boolean is) {
        if (q < 0 || q > 9 || !isTenant(t) || seen.size() == 30 || cats() == 0) return NONE;
        seen.add(new Seen(q, t, is, time, new int[] {Integer.MAX_VALUE}));
        return seen.size() - 1;
    }

    public boolean untell(int i) {
        if (i < 0 || i >= seen.size() || seen.get(i).untold()[0] != Integer.MAX_VALUE) return false;
        seen.get(i).untold()[0] = time;
        return true;
    }

    public int later(int by) {
        if (by < 0 || by > 1000 || time + by > 100000) return NONE;
        return time += by;
    }

    boolean wasIn(int wants, int q, int t) {
        World w = told.first.copy();
        for (int i = 0; i < q; i++) pass(w, false, wants);
        return w.place.get(t) >= 0;
    }

    List<Integer> fitting(int k) {
        List<Integer> fits = new ArrayList<>();
        for (int wants = 0; wants <= 99 && cats() > 0; wants++) {
            boolean all = true;
            for (Seen s : seen) {
                boolean counts = s.told() <= k && !(s.untold()[0] <= k && s.untold()[0] != Integer.MAX_VALUE);
                if (counts) all &= wasIn(wants, s.quarters(), s.tenant()) == s.is();
            }
            if (all) fits.add(wants);
        }
        return fits;
    }

    public int fits(int k) { return fitting(k).size(); }

    public int sure(int what, int k) {
        List<Integer> fits = fitting(k);
        if (fits.isEmpty() || what < 0 || what > 1) return NONE;
        return what == 0 ? fits.get(0) : fits.get(fits.size() - 1);
    }

    public int ask(int q, int what, int k) {
        List<Integer> fits = fitting(k);
        if (fits.isEmpty() || q < 0 || q > 9 || what < 0 || what > 1) return NONE;
        int best = NONE, fewest = NONE;
        for (int t = 0; t < tenants(); t++) {
            int in = 0;
            for (int wants : fits) if (wasIn(wants, q, t)) in++;
            int left = Math.max(in, fits.size() - in);
            if (best < 0 || left < fewest) {
                best = t;
                fewest = left;
            }
        }
        return what == 0 ? best : fewest;
    }

    public int image(int box) {
        if (box < 0 || box > 2) return NONE;
        boxes[box] = now.copy();
        return now.quarter;
    }

    public int back(int box) {
        if (box < 0 || box > 2 || boxes[box] == null) return NONE;
        now = boxes[box].copy();
        past.clear();
        future.clear();
        return now.quarter;
    }

    public int about(int what) {
        int lives = 0, out = 0;
        for (int c = 0; c < cats(); c++) if (now.lives.get(c)) lives |= 1 << c;
        for (int t = 0; t < tenants(); t++) if (now.place.get(t) < 0) out |= 1 << t;
        int[] all = {tenants(), cats(), rooms(), lives, out, now.quarter, now.seed, past.size(), future.size(),
            seen.size(), time, tape.length(), told.units, lying.size()};
        return what < 0 || what >= all.length ? NONE : all[what];
    }
}
