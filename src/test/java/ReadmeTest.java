import java.io.File;
import java.io.IOException;
import java.lang.reflect.Method;
import java.lang.reflect.Modifier;
import java.nio.file.Files;
import java.nio.file.Path;
import java.util.TreeSet;
import java.util.regex.Matcher;
import java.util.regex.Pattern;

/** README.md is true: its program prints what it says, and its calls and tests are those that there are. */
public final class ReadmeTest {
    private static final Check check = new Check();

    public static void main(String[] args) throws Exception {
        String readme = Files.readString(Path.of("README.md"));
        check.same("the program", outputOf(block(readme, "java")), block(readme, "text"));
        calls(readme);
        tests(readme);
        check.same(".ci/run is told", readme.contains("\n.ci/run\n"), true);
        check.end();
    }

    /** What stands in the first block of this sort. */
    private static String block(String readme, String sort) {
        Matcher matcher = Pattern.compile("(?s)```" + sort + "\n(.*?)```").matcher(readme);
        return matcher.find() ? matcher.group(1) : "no block of " + sort;
    }

    private static String outputOf(String program) throws Exception {
        Path folder = Files.createTempDirectory("readme");
        Path source = folder.resolve("Example.java");
        Files.writeString(source, program);
        String classes = System.getProperty("java.class.path") + File.pathSeparator + folder;
        String output = run("javac", "-cp", classes, "-d", folder.toString(), source.toString())
            + run("java", "-cp", classes, "Example");
        Files.deleteIfExists(folder.resolve("Example.class"));
        Files.delete(source);
        Files.delete(folder);
        return output;
    }

    /** What the command prints; its errors go where this test's go. */
    private static String run(String... command) throws Exception {
        Process process = new ProcessBuilder(command).redirectError(ProcessBuilder.Redirect.INHERIT).start();
        String printed = new String(process.getInputStream().readAllBytes());
        process.waitFor();
        return printed.replace(System.lineSeparator(), "\n");
    }

    /** Each call of the class has its row, with as many arguments as it takes, and no other call has one. */
    private static void calls(String readme) {
        TreeSet<String> due = new TreeSet<>();
        for (Method method : NameWriter.class.getDeclaredMethods()) {
            if (Modifier.isPublic(method.getModifiers())) {
                due.add(method.getName() + " of " + method.getParameterCount());
            }
        }
        TreeSet<String> told = new TreeSet<>();
        for (String row : readme.split("\n")) {
            String call = row.startsWith("| `") ? row.substring(0, row.indexOf('|', 1)) : "";
            Matcher matcher = Pattern.compile("`(\\w+)\\(([^)]*)\\)`").matcher(call);
            while (matcher.find()) {
                String taken = matcher.group(2);
                told.add(matcher.group(1) + " of " + (taken.isEmpty() ? 0 : taken.split(",").length));
            }
        }
        check.same("the calls", told, due);
    }

    private static void tests(String readme) throws IOException {
        TreeSet<String> due = new TreeSet<>();
        try (var files = Files.newDirectoryStream(Path.of("src/test/java"), "*Test.java")) {
            for (Path file : files) {
                due.add(file.getFileName().toString().replace(".java", ""));
            }
        }
        TreeSet<String> told = new TreeSet<>();
        Matcher matcher = Pattern.compile("(?m)^\\| (\\w+Test) \\|").matcher(readme);
        while (matcher.find()) {
            told.add(matcher.group(1));
        }
        check.same("the tests", told, due);
    }
}
