import java.io.File;
import java.io.IOException;
import java.nio.file.Files;
import java.nio.file.Path;
import java.util.ArrayList;
import java.util.List;
import java.util.TreeSet;
import java.util.regex.Matcher;
import java.util.regex.Pattern;

/** README.md: its commands work as they stand there, its example answers what it says, its table has every test. */
public final class ReadmeTest {
    // One of the commands is .ci/run, which comes back here: there the commands are under way already.
    private static final String UNDER_WAY = "TWINTUNERS_README_TEST";
    private static final Pattern ANSWERED = Pattern.compile("(box\\..*); *// answers (-?\\d+)(\\D.*)?");
    private static final Pattern IN_TABLE = Pattern.compile("\\| (\\w+Test) \\|.*");

    public static void main(String[] args) throws IOException, InterruptedException {
        if (System.getenv(UNDER_WAY) == null) {
            List<String> readme = Files.readAllLines(Path.of("README.md"));
            commands(readme);
            example(readme);
            table(readme);
        }
        Check.end();
    }

    private static void commands(List<String> readme) throws IOException, InterruptedException {
        List<List<String>> blocks = blocks(readme, "sh");
        Check.due("is there .ci/run among the commands", blocks.contains(List.of(".ci/run")) ? 1 : 0, 1);
        for (List<String> block : blocks) {
            runs("sh", "-e", "-c", String.join("\n", block));
        }
    }

    private static void example(List<String> readme) throws IOException, InterruptedException {
        List<String> source = new ArrayList<>();
        source.add("final class Example {");
        source.add("  static void due(long got, long want) {");
        source.add("    if (got != want) { throw new IllegalStateException(got + \" instead of \" + want); }");
        source.add("  }");
        source.add("  public static void main(String[] args) {");
        int answers = 0;
        for (List<String> block : blocks(readme, "java")) {
            for (String line : block) {
                Matcher answered = ANSWERED.matcher(line);
                boolean has = answered.matches();
                answers += has ? 1 : 0;
                source.add(has ? "due(" + answered.group(1) + ", " + answered.group(2) + ");" : line);
            }
        }
        source.add("  }");
        source.add("}");
        Check.due("does the example tell answers", answers > 0 ? 1 : 0, 1);
        Path folder = Files.createTempDirectory("readme");
        Path file = folder.resolve("Example.java");
        Files.write(file, source);
        runs("javac", "-d", folder.toString(), "src/main/java/TwinTuners.java", file.toString());
        runs("java", "-cp", folder.toString(), "Example");
        remove(folder.toFile());
    }

    private static void table(List<String> readme) {
        TreeSet<String> listed = new TreeSet<>();
        for (String line : readme) {
            Matcher row = IN_TABLE.matcher(line);
            if (row.matches()) {
                listed.add(row.group(1));
            }
        }
        TreeSet<String> there = new TreeSet<>();
        for (String name : new File("src/test/java").list()) {
            if (name.endsWith("Test.java")) {
                there.add(name.replace(".java", ""));
            }
        }
        Check.same("the tests in README.md's table", listed.toString(), there.toString());
    }

    private static List<List<String>> blocks(List<String> readme, String language) {
        List<List<String>> blocks = new ArrayList<>();
        boolean inside = false;
        for (String line : readme) {
            if (inside && line.equals("```")) {
                inside = false;
            } else if (inside) {
                blocks.get(blocks.size() - 1).add(line);
            } else if (line.equals("```" + language)) {
                inside = true;
                blocks.add(new ArrayList<>());
            }
        }
        Check.due("are there blocks of " + language, blocks.isEmpty() ? 0 : 1, 1);
        return blocks;
    }

    private static void runs(String... command) throws IOException, InterruptedException {
        ProcessBuilder builder = new ProcessBuilder(command).redirectErrorStream(true);
        builder.environment().put(UNDER_WAY, "yes");
        Process process = builder.start();
        process.getOutputStream().close();
        String printed = new String(process.getInputStream().readAllBytes());
        int code = process.waitFor();
        if (code != 0) {
            Check.report(String.join(" ", command) + "\nended with exit code " + code + " and printed\n" + printed);
        }
    }

    private static void remove(File file) {
        File[] inside = file.listFiles();
        if (inside != null) {
            for (File one : inside) {
                remove(one);
            }
        }
        if (!file.delete()) {
            Check.report(file + " could not be removed");
        }
    }
}
