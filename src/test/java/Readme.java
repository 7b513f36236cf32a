import java.io.File;
import java.io.IOException;
import java.lang.reflect.Method;
import java.lang.reflect.Modifier;
import java.nio.charset.StandardCharsets;
import java.nio.file.Files;
import java.nio.file.Path;
import java.util.ArrayList;
import java.util.List;
import java.util.regex.Matcher;
import java.util.regex.Pattern;

/** Follows README.md word for word: its programs are those of src/example, its commands show what it says. */
public final class Readme {
    private static final String OWN_TESTS = "src/test/java";
    private static final String EXAMPLES = "src/example/java";
    private static final String WHOLE_RUN = ".ci/run";

    /** A part of README.md between two lines of ```. */
    private record Block(String kind, String lines) {
    }

    public static void main(String[] args) throws IOException, InterruptedException {
        String readme = Files.readString(Path.of("README.md"));
        List<Block> blocks = blocks(readme);
        int commands = 0;
        for (int i = 0; i < blocks.size(); i++) {
            Block block = blocks.get(i);
            String shown = i + 1 < blocks.size() && blocks.get(i + 1).kind().equals("text") ? blocks.get(i + 1).lines() : "";
            if (block.kind().equals("java")) {
                sameAsExample(block.lines());
            } else if (block.kind().equals("sh") && block.lines().trim().equals(WHOLE_RUN)) {
                wholeRun(shown);
                commands++;
            } else if (block.kind().equals("sh")) {
                same("what these commands show:\n" + block.lines(), outputOf(block.lines()), shown);
                commands++;
            }
        }
        int made = commands;
        Check.due("commands in README.md", () -> made, 4);
        tests(readme);
        calls(readme);
        Check.end();
    }

    private static List<Block> blocks(String readme) {
        List<Block> blocks = new ArrayList<>();
        Matcher m = Pattern.compile("(?ms)^```(\\w+)\n(.*?)^```$").matcher(readme);
        while (m.find()) {
            blocks.add(new Block(m.group(1), m.group(2)));
        }
        return blocks;
    }

    private static void same(String what, String got, String want) {
        if (!got.equals(want)) {
            System.out.println("got:\n" + got + "README.md says:\n" + want);
        }
        Check.due(what, () -> got.equals(want) ? 1 : 0, 1);
    }

    private static void sameAsExample(String program) throws IOException {
        Matcher m = Pattern.compile("public final class (\\w+)").matcher(program);
        String name = m.find() ? m.group(1) : "";
        same("the program " + name, Files.readString(Path.of(EXAMPLES, name + ".java")), program);
    }

    /** This test is itself a part of the whole run, so it only counts the tests. */
    private static void wholeRun(String shown) {
        int due = ownTests().size() + 1;
        same("the last line of the whole run", due + " passed, 0 failed\n", shown);
        Check.due(WHOLE_RUN + " can be run", () -> Files.isExecutable(Path.of(WHOLE_RUN)) ? 1 : 0, 1);
    }

    private static List<String> ownTests() {
        List<String> tests = new ArrayList<>();
        String[] files = new File(OWN_TESTS).list();
        for (String file : files == null ? new String[0] : files) {
            if (file.endsWith(".java")) {
                tests.add(file.substring(0, file.length() - 5));
            }
        }
        return tests;
    }

    private static String outputOf(String commands) throws IOException, InterruptedException {
        Path folder = Files.createTempDirectory("readme");
        ProcessBuilder builder = new ProcessBuilder("sh", "-e", "-c", commands);
        builder.environment().put("TMPDIR", folder.toString());
        builder.redirectError(ProcessBuilder.Redirect.INHERIT);
        Process process = builder.start();
        String output = new String(process.getInputStream().readAllBytes(), StandardCharsets.UTF_8);
        int code = process.waitFor();
        Check.due("exit code of these commands:\n" + commands, () -> code, 0);
        remove(folder.toFile());
        return output;
    }

    private static void remove(File file) {
        File[] inside = file.listFiles();
        for (File each : inside == null ? new File[0] : inside) {
            remove(each);
        }
        file.delete();
    }

    private static void tests(String readme) {
        for (String test : ownTests()) {
            Check.due("README.md tells of the test " + test, () -> readme.contains("`" + test + "`") ? 1 : 0, 1);
        }
    }

    /** Each call stands in the table of calls with as many numbers as it takes, and in the program that makes every call. */
    private static void calls(String readme) throws IOException {
        String every = Files.readString(Path.of(EXAMPLES, "EveryCall.java"));
        for (Method method : TabledGoals.class.getDeclaredMethods()) {
            if (!Modifier.isPublic(method.getModifiers())) {
                continue;
            }
            Matcher m = Pattern.compile("(?m)^\\| `" + method.getName() + "\\(([^)]*)\\)` \\|").matcher(readme);
            boolean told = m.find();
            int numbers = !told ? -1 : m.group(1).isEmpty() ? 0 : m.group(1).split(",").length;
            Check.due("numbers of " + method.getName() + " in README.md", () -> numbers, method.getParameterCount());
            Check.due("EveryCall makes " + method.getName(), () -> every.contains("x." + method.getName() + "(") ? 1 : 0, 1);
        }
    }
}
