import java.io.IOException;
import java.lang.reflect.InvocationTargetException;
import java.lang.reflect.Method;
import java.nio.file.Files;
import java.nio.file.Path;
import java.util.ArrayList;
import java.util.Comparator;
import java.util.List;
import java.util.Set;
import java.util.TreeSet;
import java.util.regex.Matcher;
import java.util.regex.Pattern;
import java.util.stream.Stream;

/** README.md: its program prints what it says, each of its calls answers so, its commands work as they are written. */
public final class ReadmeTest {
    private static final Due due = new Due();
    private static final Pattern BLOCK = Pattern.compile("(?ms)^```(\\w+)\\n(.*?)^```$");
    private static final Pattern CALL = Pattern.compile("x\\.(\\w+)\\(([-\\d, ]*)\\); +// (.*)");

    public static void main(String[] args) throws Exception {
        String readme = Files.readString(Path.of("README.md"));
        List<String> java = blocks(readme, "java");
        due.is("blocks of Java", java.size(), 2);
        calls(java.get(1));
        Path top = Files.createTempDirectory("readme");
        try {
            commands(top, java.get(0), blocks(readme, "sh"), blocks(readme, "text").get(0));
        } finally {
            remove(top);
        }
        namesTests(readme);
        due.end();
    }

    private static List<String> blocks(String readme, String kind) {
        List<String> found = new ArrayList<>();
        Matcher block = BLOCK.matcher(readme);
        while (block.find()) {
            if (block.group(1).equals(kind)) {
                found.add(block.group(2));
            }
        }
        return found;
    }

    private static void calls(String block) throws Exception {
        Letterpeel x = new Letterpeel();
        Set<String> called = new TreeSet<>();
        String[] lines = block.split("\n");
        due.is("the first line", lines[0], "Letterpeel x = new Letterpeel();");
        for (int i = 1; i < lines.length; i++) {
            Matcher call = CALL.matcher(lines[i]);
            due.is(lines[i] + " is a call", call.matches(), true);
            called.add(call.group(1));
            due.is(lines[i], answerOf(x, call.group(1), call.group(2)), call.group(3));
        }
        due.is("a call has an answer", called.size() > 25, true);
    }

    private static String answerOf(Letterpeel x, String name, String arguments) throws Exception {
        String[] parts = arguments.isEmpty() ? new String[0] : arguments.split(", *");
        Object[] values = new Object[parts.length];
        Class<?>[] types = new Class<?>[parts.length];
        for (int i = 0; i < parts.length; i++) {
            values[i] = Integer.valueOf(parts[i]);
            types[i] = int.class;
        }
        Method method = Letterpeel.class.getMethod(name, types);
        try {
            Object answer = method.invoke(x, values);
            return answer instanceof String text ? '"' + text + '"' : String.valueOf(answer);
        } catch (InvocationTargetException e) {
            return e.getCause().getClass().getSimpleName();
        }
    }

    /** In a directory that has src and ../shared by links, so that what the commands make is gone when they are done. */
    private static void commands(Path top, String program, List<String> blocks, String printed) throws Exception {
        Path here = Files.createDirectory(top.resolve("main"));
        Files.createSymbolicLink(here.resolve("src"), Path.of("src").toAbsolutePath());
        Files.createSymbolicLink(top.resolve("shared"), Path.of("../shared").toRealPath());
        Files.writeString(here.resolve("Main.java"), program);
        int ciRuns = 0;
        for (int i = 0; i < blocks.size(); i++) {
            // This test is run by it.
            if (blocks.get(i).equals(".ci/run\n")) {
                ciRuns++;
                due.is(".ci/run can be run", Files.isExecutable(Path.of(".ci/run")), true);
                continue;
            }
            String told = shell(here, blocks.get(i));
            if (i == 0) {
                due.is("the program prints", told, printed);
            }
        }
        due.is(".ci/run is told", ciRuns, 1);
        due.is("there are commands", blocks.size() > 3, true);
    }

    private static String shell(Path directory, String commands) throws IOException, InterruptedException {
        ProcessBuilder builder = new ProcessBuilder("sh", "-e", "-c", commands);
        Process process = builder.directory(directory.toFile()).redirectError(ProcessBuilder.Redirect.INHERIT).start();
        process.getOutputStream().close();
        String told = new String(process.getInputStream().readAllBytes());
        int code = process.waitFor();
        due.is(commands + told, code, 0);
        return told;
    }

    /** Every test has its line in the table, and the table names no other one. */
    private static void namesTests(String readme) throws IOException {
        Set<String> named = new TreeSet<>();
        Matcher row = Pattern.compile("(?m)^\\| `(\\w+Test)` \\|").matcher(readme);
        while (row.find()) {
            named.add(row.group(1));
        }
        Set<String> found = new TreeSet<>();
        try (Stream<Path> files = Files.list(Path.of("src/test/java"))) {
            files.map(file -> file.getFileName().toString()).filter(name -> name.endsWith("Test.java"))
                    .forEach(name -> found.add(name.replace(".java", "")));
        }
        due.is("tests that README.md names", named, found);
    }

    private static void remove(Path top) throws IOException {
        List<Path> all;
        try (Stream<Path> files = Files.walk(top)) {
            all = files.sorted(Comparator.reverseOrder()).toList();
        }
        for (Path file : all) {
            Files.delete(file);
        }
    }
}
