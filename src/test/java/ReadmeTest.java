import java.io.IOException;
import java.lang.reflect.Method;
import java.lang.reflect.Modifier;
import java.nio.file.Files;
import java.nio.file.Path;
import java.util.ArrayList;
import java.util.List;
import java.util.Set;
import java.util.TreeSet;
import java.util.regex.Matcher;
import java.util.regex.Pattern;
import java.util.stream.Stream;

/** What README.md says is followed, in a copy of the sources that holds nothing else. */
public final class ReadmeTest {
    private static final Path COPY = Path.of(System.getProperty("java.io.tmpdir"), "cat-leases-readme-" + ProcessHandle.current().pid());

    public static void main(String[] args) throws Exception {
        String readme = Files.readString(Path.of("README.md"));
        program(readme);
        calls(readme);
        lists(readme);
        paths(readme);
        try {
            commands(readme);
        } finally {
            remove(COPY);
        }
        Check.end("ReadmeTest");
    }

    private static List<String> blocks(String readme, String kind) {
        List<String> found = new ArrayList<>();
        Matcher m = Pattern.compile("(?ms)^```" + kind + "\n(.*?)^```$").matcher(readme);
        while (m.find()) found.add(m.group(1));
        return found;
    }

    private static void program(String readme) throws IOException {
        List<String> java = blocks(readme, "java");
        Check.due("programs in README.md", 1, java.size());
        Check.due("the program is the file", Files.readString(Path.of("src/demo/java/Demo.java")), java.get(0));
    }

    /** Each call of the face has its place in one of the rows of the table, and no other word has. */
    private static void calls(String readme) {
        Set<String> told = new TreeSet<>();
        int words = 0;
        Matcher rows = Pattern.compile("(?m)^\\| ((?:`[a-z]+` ?)+)\\| ").matcher(readme);
        while (rows.find()) {
            Matcher word = Pattern.compile("`([a-z]+)`").matcher(rows.group(1));
            while (word.find()) {
                words++;
                told.add(word.group(1));
            }
        }
        Set<String> face = new TreeSet<>();
        for (Method method : CatLeases.class.getDeclaredMethods()) {
            if (Modifier.isPublic(method.getModifiers())) face.add(method.getName());
        }
        Check.due("calls in README.md", face.toString(), told.toString());
        Check.due("each call but once", face.size(), words);
    }

    private static void lists(String readme) throws IOException {
        Set<String> told = new TreeSet<>();
        Matcher rows = Pattern.compile("(?m)^\\| `([A-Z]\\w*)` \\| ").matcher(readme);
        while (rows.find()) told.add(rows.group(1));
        Set<String> there = new TreeSet<>(Set.of("CatLeases"));
        for (Class<?> inside : CatLeases.class.getDeclaredClasses()) there.add(inside.getSimpleName());
        try (Stream<Path> files = Files.list(Path.of("src/test/java"))) {
            files.map(file -> file.getFileName().toString()).filter(name -> name.endsWith("Test.java"))
                .forEach(name -> there.add(name.replace(".java", "")));
        }
        Check.due("tests and classes in README.md", there.toString(), told.toString());
    }

    private static void paths(String readme) {
        int found = 0;
        Matcher m = Pattern.compile("`((?:\\.\\./|\\.ci/|src/)[\\w./]+|NOTES\\.md)`").matcher(readme);
        while (m.find()) {
            found++;
            Check.due(m.group(1) + " is there", true, Files.exists(Path.of(m.group(1))));
        }
        Check.due("paths are found", true, found >= 6);
        Check.due(".ci/run can be run", true, Files.isExecutable(Path.of(".ci/run")));
    }

    /** The first block prints what the text behind it tells; of the others each command ends well. */
    private static void commands(String readme) throws Exception {
        copy(Path.of("src"), COPY.resolve("src"));
        List<String> blocks = blocks(readme, "sh");
        Check.due("blocks of commands", 3, blocks.size());
        Check.due("what the program prints", blocks(readme, "text").get(0), followed(blocks.get(0)));
        // This test runs within it.
        Check.due("the second block", ".ci/run\n", blocks.get(1));
        String printed = followed(blocks.get(2));
        Check.due("TextTest is run: " + printed, true, printed.contains("TextTest: "));
        Check.due("ModelTest is run: " + printed, true, printed.contains("ModelTest: "));
    }

    private static String followed(String commands) throws Exception {
        Path told = COPY.resolve("printed");
        int code = new ProcessBuilder("sh", "-e", "-c", commands).directory(COPY.toFile())
            .redirectErrorStream(true).redirectOutput(told.toFile()).start().waitFor();
        String printed = Files.readString(told);
        Check.due("ends well: " + commands + printed, 0, code);
        return printed;
    }

    private static void copy(Path from, Path to) throws IOException {
        List<Path> all;
        try (Stream<Path> files = Files.walk(from)) {
            all = files.toList();
        }
        for (Path path : all) {
            Path target = to.resolve(from.relativize(path).toString());
            if (Files.isDirectory(path)) Files.createDirectories(target);
            else Files.copy(path, target);
        }
    }

    private static void remove(Path folder) throws IOException {
        if (!Files.exists(folder)) return;
        List<Path> all;
        try (Stream<Path> files = Files.walk(folder)) {
            all = new ArrayList<>(files.toList());
        }
        for (int i = all.size() - 1; i >= 0; i--) Files.delete(all.get(i));
    }
}
