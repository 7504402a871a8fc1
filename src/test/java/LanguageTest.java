import java.io.IOException;
import java.lang.reflect.Constructor;
import java.lang.reflect.Field;
import java.lang.reflect.Method;
import java.lang.reflect.Modifier;
import java.nio.file.Files;
import java.nio.file.Path;
import java.util.ArrayList;
import java.util.HashMap;
import java.util.HashSet;
import java.util.List;
import java.util.Map;
import java.util.Set;
import java.util.TreeMap;
import java.util.TreeSet;
import java.util.regex.Matcher;
import java.util.regex.Pattern;

/** The face of the document, and the rules of LANGUAGE.md that can be seen from the source and from the class. */
public final class LanguageTest {
    private static final String SOURCE = "src/main/java/CatLeases.java";
    private static final String DOCUMENT = "../shared/DOC.md";

    public static void main(String[] args) throws IOException {
        String source = Files.readString(Path.of(SOURCE)).replaceAll("(?s)/\\*.*?\\*/", "").replaceAll("//[^\n]*", "");
        face();
        banned(source);
        lengths(source);
        nested();
        statics();
        library(source);
        loops(source);
        depths(source);
        Check.end("LanguageTest");
    }

    private static void is(String what, boolean is) {
        Check.due(what, true, is);
    }

    private static void face() throws IOException {
        Set<String> want = new TreeSet<>();
        Matcher m = Pattern.compile("    public (int|boolean) (\\w+)\\(([^)]*)\\);").matcher(Files.readString(Path.of(DOCUMENT)));
        while (m.find()) want.add(m.group(1) + " " + m.group(2) + "(" + m.group(3).replaceAll("(int|boolean) \\w+", "$1") + ")");
        Check.due("methods in the document", 48 - 1, want.size());
        Set<String> got = new TreeSet<>();
        Set<String> hidden = new TreeSet<>();
        for (Method method : CatLeases.class.getDeclaredMethods()) {
            List<String> types = new ArrayList<>();
            for (Class<?> type : method.getParameterTypes()) types.add(type.getName());
            String line = method.getReturnType() + " " + method.getName() + "(" + String.join(", ", types) + ")";
            if (Modifier.isPublic(method.getModifiers())) got.add(line);
            else hidden.add(method.getName());
            is(line + " is public or private", Modifier.isPublic(method.getModifiers()) || Modifier.isPrivate(method.getModifiers()));
        }
        is("the face is the document's: " + got, got.equals(want));
        for (String line : got) is("no private " + line, !hidden.contains(line.replaceAll(".* (\\w+)\\(.*", "$1")));
        for (Field field : CatLeases.class.getDeclaredFields()) {
            is(field + " is private", Modifier.isPrivate(field.getModifiers()) || field.getName().equals("NONE"));
            is(field + " is no static state", !Modifier.isStatic(field.getModifiers()) || Modifier.isFinal(field.getModifiers()));
        }
        Constructor<?>[] constructors = CatLeases.class.getDeclaredConstructors();
        is("one public constructor", constructors.length == 1 && Modifier.isPublic(constructors[0].getModifiers()));
        is("final", Modifier.isFinal(CatLeases.class.getModifiers()));
    }

    private static void banned(String source) {
        String[] words = {"throw", "throws", "try", "catch", "synchronized", "assert", "package", "protected", "static \\{", "volatile",
            "System\\.(?!arraycopy)", "Exact\\b", "->", "::", "Math\\.random", "hashCode", "\\bvar\\b", "Object\\b", "while \\(true\\)",
            "for \\(;", "new \\w+(<>)?\\([^)]*\\) *\\{", "\\bnull\\b", "double", "float", "Math\\.(?!max|min)", "Integer\\.(?!bitCount)"};
        for (String word : words) {
            Matcher m = Pattern.compile(word.matches("\\w+") ? "\\b" + word + "\\b" : word).matcher(source);
            is("no " + word, !m.find());
        }
        Matcher imports = Pattern.compile("import ([^;]*);").matcher(source);
        while (imports.find()) is("import " + imports.group(1), imports.group(1).equals("java.util.Arrays"));
        for (char c : source.toCharArray()) {
            if (c > 127) is("a sign above 127", false);
        }
    }

    private static void lengths(String source) {
        Matcher m = Pattern.compile("(?m)^( {4}| {8})(?:\\w+ )*[\\w\\[\\]]+ ?\\w*\\(([^)]*)\\) \\{\n((?:.*\n)*?)\\1\\}\n").matcher(source);
        int methods = 0;
        while (m.find()) {
            methods++;
            is("some sixty lines at most: " + m.group().trim().split("\n")[0], m.group(3).split("\n").length <= 60);
            is("seven parameters at most: " + m.group(2), m.group(2).split(",").length <= 7);
        }
        is("methods are found: " + methods, methods > 120);
    }

    private static void nested() {
        Class<?>[] classes = CatLeases.class.getDeclaredClasses();
        is("some twelve classes at most", classes.length < 12);
        for (Class<?> c : classes) {
            is(c + " is static and private", Modifier.isStatic(c.getModifiers()) && Modifier.isPrivate(c.getModifiers()));
            int fields = 0;
            for (Field field : c.getDeclaredFields()) {
                if (!Modifier.isStatic(field.getModifiers())) fields++;
                else is(field + " is final", Modifier.isFinal(field.getModifiers()));
            }
            is(c + " has some twenty fields at most: " + fields, fields <= 20);
            for (Method method : c.getDeclaredMethods()) {
                for (Method shown : CatLeases.class.getDeclaredMethods()) {
                    is(method + " has a name of its own",
                        !Modifier.isPublic(shown.getModifiers()) || !shown.getName().equals(method.getName()));
                }
            }
        }
    }

    /** Rule 5, and rule 11's fields of the class itself. */
    private static void statics() {
        List<Class<?>> classes = new ArrayList<>(List.of(CatLeases.class.getDeclaredClasses()));
        classes.add(CatLeases.class);
        Set<Class<?>> constants = Set.of(int.class, long.class, boolean.class, char.class, String.class);
        for (Class<?> c : classes) {
            int fields = 0;
            for (Field field : c.getDeclaredFields()) {
                if (Modifier.isStatic(field.getModifiers())) is(field + " is a constant", constants.contains(field.getType()));
                else fields++;
            }
            is(c + " has some twenty fields at most: " + fields, fields <= 20);
        }
    }

    /** Rule 4: what is called on a name that begins with a capital, and what is made. */
    private static void library(String source) {
        Set<String> fine = Set.of("Math.max", "Math.min", "Integer.bitCount", "System.arraycopy", "Arrays.fill",
            "WORDS.length", "WORDS.charAt", "SIGNS.indexOf");
        Matcher m = Pattern.compile("\\b([A-Z]\\w*)\\.(\\w+)\\(").matcher(source);
        while (m.find()) is(m.group() + " is listed", fine.contains(m.group(1) + "." + m.group(2)));
        Matcher made = Pattern.compile("\\bnew (\\w+)").matcher(source);
        Set<String> own = new TreeSet<>(Set.of("int", "long", "byte", "boolean"));
        for (Class<?> c : CatLeases.class.getDeclaredClasses()) own.add(c.getSimpleName());
        while (made.find()) is("new " + made.group(1), own.contains(made.group(1)));
    }

    /** Rule 9: each loop counts to a bound that stands in its own line. */
    private static void loops(String source) {
        is("no while, no do", !Pattern.compile("\\b(while|do)\\b").matcher(source).find());
        Matcher m = Pattern.compile("for \\((.*)\\) \\{").matcher(source);
        int loops = 0;
        while (m.find()) {
            loops++;
            String[] parts = m.group(1).split(";");
            is("three parts: " + m.group(1), parts.length == 3);
            String counter = parts[0].replaceAll("int (\\w+) = .*", "$1");
            boolean up = parts[2].trim().equals(counter + "++") && parts[1].contains(" " + counter + " <");
            boolean down = parts[2].trim().matches(counter + "(--| -= \\d+)") && parts[1].contains(" " + counter + " >=");
            is("a counter against a bound: " + m.group(1), up || down);
        }
        is("loops are found: " + loops, loops > 60);
    }

    /** Rule 11: calls that are no recursion go at most eight deep. A name that two classes have counts as both. */
    private static void depths(String source) {
        Map<String, Set<String>> calls = new TreeMap<>();
        Map<String, String> bodies = new HashMap<>();
        Matcher m = Pattern.compile("(?m)^( {4}| {8})(?:(?:public|private|static|final) )*(?:[\\w\\[\\]]+ )?(\\w+)\\([^)]*\\) \\{\n((?:.*\n)*?)\\1\\}\n").matcher(source);
        while (m.find()) bodies.merge(m.group(2), m.group(3), String::concat);
        for (String name : bodies.keySet()) {
            Set<String> called = new TreeSet<>();
            Matcher call = Pattern.compile("(?<!new )\\b(\\w+)\\(").matcher(bodies.get(name));
            while (call.find()) if (bodies.containsKey(call.group(1))) called.add(call.group(1));
            calls.put(name, called);
        }
        is("methods are found: " + calls.size(), calls.size() > 110);
        Map<String, Integer> deep = new HashMap<>();
        for (String name : calls.keySet()) {
            int depth = depth(name, calls, deep);
            is(name + " goes " + depth + " deep", depth <= 8);
        }
        is("mews goes some way down: " + deep.get("mews"), deep.get("mews") >= 6);
    }

    /** Methods that call one another count as one. */
    private static int depth(String name, Map<String, Set<String>> calls, Map<String, Integer> deep) {
        if (deep.containsKey(name)) return deep.get(name);
        Set<String> ring = new HashSet<>(Set.of(name));
        for (String other : calls.keySet()) if (reaches(name, other, calls) && reaches(other, name, calls)) ring.add(other);
        int most = 0;
        for (String one : ring) {
            for (String called : calls.get(one)) if (!ring.contains(called)) most = Math.max(most, depth(called, calls, deep));
        }
        deep.put(name, most + 1);
        return most + 1;
    }

    private static boolean reaches(String from, String to, Map<String, Set<String>> calls) {
        Set<String> met = new HashSet<>();
        List<String> open = new ArrayList<>(calls.get(from));
        while (!open.isEmpty()) {
            String name = open.remove(open.size() - 1);
            if (met.add(name)) open.addAll(calls.get(name));
        }
        return met.contains(to);
    }
}
