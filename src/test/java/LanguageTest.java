import java.io.IOException;
import java.lang.reflect.Constructor;
import java.lang.reflect.Field;
import java.lang.reflect.Method;
import java.lang.reflect.Modifier;
import java.nio.file.Files;
import java.nio.file.Path;
import java.util.ArrayList;
import java.util.List;
import java.util.Set;
import java.util.TreeSet;
import java.util.regex.Matcher;
import java.util.regex.Pattern;

/** The face of the document, and the rules of LANGUAGE.md that can be seen from the source and from the class. */
public final class LanguageTest {
    private static final String SOURCE = "src/main/java/CatLeases.java";
    private static final String DOCUMENT = "../shared/DOC.md";

    public static void main(String[] args) throws IOException {
        String source = Files.readString(Path.of(SOURCE)).replaceAll("(?s)/\\*.*?\\*/", "").replaceAll("//[^\n]*", "");
        face();
        banned(source);
        lengths(source);
        nested();
        Check.end("LanguageTest");
    }

    private static void is(String what, boolean is) {
        Check.due(what, true, is);
    }

    private static void face() throws IOException {
        Set<String> want = new TreeSet<>();
        Matcher m = Pattern.compile("    public (int|boolean) (\\w+)\\(([^)]*)\\);").matcher(Files.readString(Path.of(DOCUMENT)));
        while (m.find()) want.add(m.group(1) + " " + m.group(2) + "(" + m.group(3).replaceAll("(int|boolean) \\w+", "$1") + ")");
        Check.due("methods in the document", 48 - 1, want.size());
        Set<String> got = new TreeSet<>();
        Set<String> hidden = new TreeSet<>();
        for (Method method : CatLeases.class.getDeclaredMethods()) {
            List<String> types = new ArrayList<>();
            for (Class<?> type : method.getParameterTypes()) types.add(type.getName());
            String line = method.getReturnType() + " " + method.getName() + "(" + String.join(", ", types) + ")";
            if (Modifier.isPublic(method.getModifiers())) got.add(line);
            else hidden.add(method.getName());
            is(line + " is public or private", Modifier.isPublic(method.getModifiers()) || Modifier.isPrivate(method.getModifiers()));
        }
        is("the face is the document's: " + got, got.equals(want));
        for (String line : got) is("no private " + line, !hidden.contains(line.replaceAll(".* (\\w+)\\(.*", "$1")));
        for (Field field : CatLeases.class.getDeclaredFields()) {
            is(field + " is private", Modifier.isPrivate(field.getModifiers()) || field.getName().equals("NONE"));
            is(field + " is no static state", !Modifier.isStatic(field.getModifiers()) || Modifier.isFinal(field.getModifiers()));
        }
        Constructor<?>[] constructors = CatLeases.class.getDeclaredConstructors();
        is("one public constructor", constructors.length == 1 && Modifier.isPublic(constructors[0].getModifiers()));
        is("final", Modifier.isFinal(CatLeases.class.getModifiers()));
    }

    private static void banned(String source) {
        String[] words = {"throw", "throws", "try", "catch", "synchronized", "assert", "package", "protected", "static \\{", "volatile",
            "System\\.(?!arraycopy)", "Exact\\b", "->", "::", "Math\\.random", "hashCode", "\\bvar\\b", "Object\\b", "while \\(true\\)",
            "for \\(;", "new \\w+(<>)?\\([^)]*\\) *\\{", "\\bnull\\b", "double", "float", "Math\\.(?!max|min)", "Integer\\.(?!bitCount)"};
        for (String word : words) {
            Matcher m = Pattern.compile(word.matches("\\w+") ? "\\b" + word + "\\b" : word).matcher(source);
            is("no " + word, !m.find());
        }
        Matcher imports = Pattern.compile("import ([^;]*);").matcher(source);
        while (imports.find()) is("import " + imports.group(1), imports.group(1).equals("java.util.Arrays"));
        for (char c : source.toCharArray()) {
            if (c > 127) is("a sign above 127", false);
        }
    }

    private static void lengths(String source) {
        Matcher m = Pattern.compile("(?m)^( {4}| {8})(?:\\w+ )*[\\w\\[\\]]+ ?\\w*\\(([^)]*)\\) \\{\n((?:.*\n)*?)\\1\\}\n").matcher(source);
        int methods = 0;
        while (m.find()) {
            methods++;
            is("some sixty lines at most: " + m.group().trim().split("\n")[0], m.group(3).split("\n").length <= 60);
            is("seven parameters at most: " + m.group(2), m.group(2).split(",").length <= 7);
        }
        is("methods are found: " + methods, methods > 120);
    }

    private static void nested() {
        Class<?>[] classes = CatLeases.class.getDeclaredClasses();
        is("some twelve classes at most", classes.length < 12);
        for (Class<?> c : classes) {
            is(c + " is static and private", Modifier.isStatic(c.getModifiers()) && Modifier.isPrivate(c.getModifiers()));
            int fields = 0;
            for (Field field : c.getDeclaredFields()) {
                if (!Modifier.isStatic(field.getModifiers())) fields++;
                else is(field + " is final", Modifier.isFinal(field.getModifiers()));
            }
            is(c + " has some twenty fields at most: " + fields, fields <= 20);
            for (Method method : c.getDeclaredMethods()) {
                for (Method shown : CatLeases.class.getDeclaredMethods()) {
                    is(method + " has a name of its own",
                        !Modifier.isPublic(shown.getModifiers()) || !shown.getName().equals(method.getName()));
                }
            }
        }
    }
}
