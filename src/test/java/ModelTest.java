import java.lang.reflect.InvocationTargetException;
import java.lang.reflect.Method;
import java.lang.reflect.Modifier;
import java.nio.charset.StandardCharsets;
import java.util.ArrayList;
import java.util.Comparator;
import java.util.List;
import java.util.Random;

/** Long chance runs of calls, the same ones on the class and on the plain model of the document. */
public final class ModelTest {
    private static final int RUNS = 700;
    private static final int CALLS = 512;
    private static final int[] EDGES = {Integer.MIN_VALUE, Integer.MAX_VALUE, -1, -2, 0, 4, 5, 6, 7, 8, 9, 10, 13, 14, 20, 21, 30, 31, 32, 60, 61,
        63, 64, 99, 100, 999, 1000, 1001, 1600};

    private final Random random;
    private final CatLeases real = new CatLeases();
    private final Model model = new Model();
    private final List<String> told = new ArrayList<>();
    private int calls = 0;

    private ModelTest(long seed) {
        random = new Random(seed);
    }

    private static final List<Method> FACE = new ArrayList<>();

    public static void main(String[] args) throws Exception {
        for (Method m : CatLeases.class.getDeclaredMethods()) {
            if (Modifier.isPublic(m.getModifiers())) FACE.add(m);
        }
        FACE.sort(Comparator.comparing(Method::getName));
        int runs = args.length > 0 ? Integer.parseInt(args[0]) : RUNS;
        int calls = 0;
        for (int seed = 1; seed <= runs; seed++) {
            ModelTest test = new ModelTest(seed);
            String wrong = test.run();
            calls += test.calls;
            if (wrong != null) {
                System.out.println("seed " + seed + ": " + wrong);
                for (String line : test.told) System.out.println("  told: " + line);
                System.exit(1);
            }
        }
        System.out.println("ModelTest: " + calls + " calls answered as in the model");
    }

    private String run() throws Exception {
        for (int part = 0; part < 3 && calls < CALLS; part++) {
            String text = text();
            told.add(text);
            String wrong = load(text);
            if (wrong != null) return wrong;
            int until = Math.min(CALLS, calls + 60 + random.nextInt(200));
            while (calls < until) {
                Method m = FACE.get(random.nextInt(FACE.size()));
                String name = m.getName();
                if (name.equals("mews") && random.nextInt(4) != 0) continue;
                if (name.equals("back") && random.nextInt(3) != 0) continue;
                wrong = both(m, arguments(m));
                if (wrong != null) return wrong;
            }
        }
        return null;
    }

    private String both(Method m, Object[] args) throws Exception {
        calls++;
        Object want = Model.class.getMethod(m.getName(), m.getParameterTypes()).invoke(model, args);
        Object got;
        try {
            got = m.invoke(real, args);
        } catch (InvocationTargetException e) {
            got = e.getCause();
        }
        if (want.equals(got)) return null;
        return m.getName() + java.util.Arrays.toString(args) + " answered " + got + ", due is " + want;
    }

    private String load(String text) throws Exception {
        both(CatLeases.class.getMethod("end", int.class), new Object[] {0});
        byte[] bytes = text.getBytes(StandardCharsets.ISO_8859_1);
        Method feed = CatLeases.class.getMethod("feed", int.class, int.class, int.class, int.class, int.class);
        for (int at = 0; at < bytes.length; at += 20) {
            Object[] five = new Object[5];
            for (int i = 0; i < 5; i++) {
                int n = 0;
                for (int j = 0; j < 4; j++) {
                    int index = at + 4 * i + j;
                    n = n << 8 | (index < bytes.length ? bytes[index] & 255 : 32);
                }
                five[i] = n;
            }
            String wrong = both(feed, five);
            if (wrong != null) return wrong;
        }
        String wrong = both(CatLeases.class.getMethod("end", int.class), new Object[] {bytes.length});
        if (wrong == null) wrong = both(CatLeases.class.getMethod("mews"), new Object[0]);
        if (wrong == null) wrong = both(CatLeases.class.getMethod("fault", int.class), new Object[] {0});
        if (wrong == null) wrong = both(CatLeases.class.getMethod("fault", int.class), new Object[] {1});
        return wrong;
    }

    private Object[] arguments(Method m) {
        Class<?>[] types = m.getParameterTypes();
        Object[] args = new Object[types.length];
        for (int i = 0; i < args.length; i++) {
            args[i] = types[i] == boolean.class ? (Object) random.nextBoolean() : (Object) number(m.getName(), i);
        }
        return args;
    }

    private int number(String name, int index) {
        int chance = random.nextInt(60);
        if (chance == 0) return random.nextInt();
        if (chance <= 2) return EDGES[random.nextInt(EDGES.length)];
        switch (name) {
            case "will": return index == 1 ? random.nextInt(64) - 1 : index == 2 ? random.nextInt(2) : random.nextInt(7);
            case "housed": return random.nextInt(64) - 1;
            case "law": return random.nextInt(103) - 1;
            case "spend": return index == 1 ? random.nextInt(103) - 1 : random.nextInt(7);
            case "calm": return index == 1 ? random.nextInt(12) - 1 : random.nextInt(7);
            case "grief": return index == 1 ? random.nextInt(24) - 1 : random.nextInt(6);
            case "keeper": return index == 1 ? random.nextInt(66) - 1 : random.nextInt(8);
            case "probate": return random.nextInt(66) - 1;
            case "later": return random.nextInt(4) == 0 ? random.nextInt(1100) - 20 : random.nextInt(3);
            case "fits": return known();
            case "sure": return index == 1 ? known() : random.nextInt(2);
            case "ask": return index == 2 ? known() : index == 1 ? random.nextInt(2) : random.nextInt(10);
            case "seen": return index == 0 ? random.nextInt(11) : random.nextInt(7);
            case "about": return random.nextInt(15);
            case "lies": return random.nextInt(9) - 1;
            case "image": case "back": return random.nextInt(3);
            case "odds": return index == 1 ? random.nextInt(5) : index == 2 ? random.nextInt(2) : random.nextInt(6);
            case "swaps": return random.nextInt(3);
            case "haven": return index == 1 ? random.nextInt(2) : random.nextInt(7);
            default: return random.nextInt(8);
        }
    }

    private int known() {
        return random.nextInt(model.about(10) + 3) - 1;
    }

    // ---- texts ----

    private String text() {
        StringBuilder s = new StringBuilder();
        int cats = random.nextInt(7), rooms = random.nextInt(9), tenants = random.nextInt(8);
        for (int c = 0; c < cats; c++) {
            s.append("cat c").append((char) ('a' + c)).append(" wants ").append(random.nextInt(random.nextBoolean() ? 15 : 100));
            if (c > 0 && random.nextInt(3) != 0) s.append(" heir c").append((char) ('a' + random.nextInt(c)));
            s.append(";");
        }
        for (int r = 0; r < rooms; r++) {
            s.append(random.nextBoolean() ? "room r" : " room\nr").append((char) ('a' + r));
            if (cats > 0 && random.nextInt(5) != 0) s.append(" of c").append((char) ('a' + random.nextInt(cats)));
            s.append(";");
        }
        int free = 0;
        for (int t = 0; t < tenants; t++) {
            s.append("tenant t").append((char) ('a' + t)).append(" hours ").append(random.nextInt(random.nextBoolean() ? 25 : 100));
            if (random.nextBoolean()) s.append(" warm ").append(random.nextInt(10));
            if (random.nextBoolean()) s.append(" fidgets ").append(random.nextInt(10));
            if (free < rooms && random.nextInt(4) != 0) {
                s.append(" in r").append((char) ('a' + free));
                free += 1 + random.nextInt(2);
            }
            s.append(";");
        }
        if (random.nextInt(4) != 0) s.append("likes ").append(random.nextInt(8) == 0 ? deep() : either(random.nextInt(4))).append(";");
        if (random.nextInt(3) != 0) s.append("dies ").append(random.nextInt(random.nextBoolean() ? 30 : 101)).append(";");
        if (random.nextInt(3) != 0) s.append("draw ").append(random.nextInt(1000)).append(";");
        if (random.nextInt(4) == 0) spoil(s);
        if (s.length() > 1600) s.setLength(1600);
        return s.toString();
    }

    private void spoil(StringBuilder s) {
        String[] bits = {"cat ", "x", "9", "99999", "12a", ";", "(", ")", " not ", " wants 100", " abcdefghi ", "%", "\t", "A", "\u00e9",
            "likes 1;", "dies 101;", "draw 1000;", "tenant ta hours 1;", "room ra;", " in ra", " of zz", " heir ca", "=", "1234", " quarter "};
        for (int i = random.nextInt(3); i >= 0; i--) {
            int at = random.nextInt(s.length() + 1);
            int kind = random.nextInt(3);
            if (kind == 0 && at < s.length()) s.deleteCharAt(at);
            else if (kind == 1 && at < s.length()) s.setLength(at);
            else s.insert(at, bits[random.nextInt(bits.length)]);
        }
    }

    /** About as far within others as can be. */
    private String deep() {
        StringBuilder s = new StringBuilder();
        int opened = 0;
        for (int i = 4 + random.nextInt(5); i > 0; i--) {
            boolean not = random.nextBoolean();
            s.append(not ? "not " : random.nextInt(4) == 0 ? "hours - (" : "(");
            opened += not ? 0 : 1;
        }
        return s.append(sum(0)).append(")".repeat(opened)).toString();
    }

    private String either(int depth) {
        if (random.nextInt(3) == 0) return sum(depth);
        return random.nextInt(3) == 0 ? both(depth) + " or " + both(depth) : both(depth);
    }

    private String both(int depth) {
        return random.nextInt(3) == 0 ? one(depth) + " and " + one(depth) : one(depth);
    }

    private String one(int depth) {
        if (random.nextInt(6) == 0) return "not " + one(depth);
        if (random.nextInt(3) == 0) return sum(depth) + "<>=".charAt(random.nextInt(3)) + sum(depth);
        return sum(depth);
    }

    private String sum(int depth) {
        StringBuilder s = new StringBuilder(term(depth));
        for (int i = random.nextInt(4); i > 0; i--) s.append(random.nextBoolean() ? " + " : "-").append(term(depth));
        return s.toString();
    }

    private String term(int depth) {
        StringBuilder s = new StringBuilder(unit(depth));
        for (int i = random.nextInt(2); i > 0; i--) s.append("*/%".charAt(random.nextInt(3))).append(unit(depth));
        return s.toString();
    }

    private String unit(int depth) {
        if (depth > 0 && random.nextInt(3) == 0) return "(" + either(depth - 1) + ")";
        if (random.nextInt(4) == 0) return " " + random.nextInt(random.nextBoolean() ? 10 : 10000);
        String[] terms = {"hours", "wants", "warm", "fidgets", "stayed", "rooms", "quarter", "hours", "wants"};
        return terms[random.nextInt(terms.length)];
    }
}
