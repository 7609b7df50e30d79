import java.io.IOException;
import java.lang.reflect.Method;
import java.lang.reflect.Modifier;
import java.nio.charset.StandardCharsets;
import java.nio.file.DirectoryStream;
import java.nio.file.Files;
import java.nio.file.Path;
import java.util.ArrayList;
import java.util.List;
import java.util.regex.Matcher;
import java.util.regex.Pattern;

/** That what README.md says of using the class and of running its tests holds as it is written there. */
public final class ReadmeTest {
    private static final Path CLASS = Path.of("src/main/java/PermitWeave.java");
    private static final Path TESTS = Path.of("src/test/java");
    /** A file below this folder, as a command or a sentence names it. */
    private static final Pattern FILE = Pattern.compile("(?<![\\w./])(?:src|\\.ci|\\.\\./shared)(?:/[\\w.]+)*");
    private static final Due due = new Due("ReadmeTest");
    private static String readme;

    private ReadmeTest() {
    }

    /** What stands under a heading, up to the next one. */
    private static String section(String heading) {
        int start = readme.indexOf("\n## " + heading + "\n");
        due.is("README.md has \"" + heading + "\"", start >= 0, true);
        if (start < 0) {
            return "";
        }
        int end = readme.indexOf("\n## ", start + 1);
        return readme.substring(start, end < 0 ? readme.length() : end);
    }

    /** A block of a kind in a section, numbered from 0; empty if there is none. */
    private static String block(String section, String kind, int number) {
        List<String> blocks = new ArrayList<>();
        Matcher found = Pattern.compile("```" + kind + "\n(.*?)```\n", Pattern.DOTALL).matcher(section);
        while (found.find()) {
            blocks.add(found.group(1));
        }
        due.is("there is a block " + kind + " " + number, number < blocks.size(), true);
        return number < blocks.size() ? blocks.get(number) : "";
    }

    /** Runs commands, a line each, in a folder; answers what all of them print. */
    private static String printed(String commands, Path folder) throws IOException, InterruptedException {
        StringBuilder text = new StringBuilder();
        for (String command : commands.lines().toList()) {
            Process process = new ProcessBuilder(command.split(" ")).directory(folder.toFile())
                    .redirectErrorStream(true).start();
            text.append(new String(process.getInputStream().readAllBytes(), StandardCharsets.UTF_8));
            due.is(command + " ends with", process.waitFor(), 0);
        }
        return text.toString().replace(System.lineSeparator(), "\n");
    }

    private static void theProgramPrintsWhatIsSaid() throws IOException, InterruptedException {
        String use = section("How to use it");
        String program = block(use, "java", 0);
        Path folder = Path.of("build", "readme");
        Files.createDirectories(folder);
        Files.writeString(folder.resolve("Town.java"), program);
        Files.write(folder.resolve(CLASS.getFileName()), Files.readAllBytes(CLASS));
        due.is("the program prints", printed(block(use, "sh", 0), folder), block(use, "text", 0));
    }

    private static void eachCallIsNamed() {
        String use = section("How to use it");
        for (Method method : PermitWeave.class.getDeclaredMethods()) {
            if (Modifier.isPublic(method.getModifiers())) {
                due.is("it names " + method.getName(), use.contains("`" + method.getName() + "`"), true);
            }
        }
    }

    private static void oneTestCanBeRun() throws IOException, InterruptedException {
        String commands = block(section("How to run its tests"), "sh", 1);
        String text = printed(commands, Path.of("."));
        due.is("one test alone prints " + text, text.endsWith("answers, 0 not as due\n"), true);
    }

    private static void allTestsCanBeRun() {
        String command = block(section("How to run its tests"), "sh", 0);
        due.is("all tests are run by", command, "bash .ci/run\n");
        due.is(".ci/run can be executed", Files.isExecutable(Path.of(".ci/run")), true);
    }

    private static void eachTestIsNamed() throws IOException {
        String run = section("How to run its tests");
        try (DirectoryStream<Path> tests = Files.newDirectoryStream(TESTS, "*Test.java")) {
            for (Path test : tests) {
                String name = test.getFileName().toString().replace(".java", "");
                due.is("it names " + name, run.contains("\n| `" + name + "` |"), true);
            }
        }
        Matcher named = Pattern.compile("`([A-Z]\\w*)(?:\\.\\w+)?`").matcher(run);
        while (named.find()) {
            due.is("there is " + named.group(1), Files.exists(TESTS.resolve(named.group(1) + ".java")), true);
        }
    }

    private static void eachFileIsThere() {
        Matcher named = FILE.matcher(readme.replace("*Test.java", ""));
        while (named.find()) {
            due.is("there is " + named.group(), Files.exists(Path.of(named.group())), true);
        }
    }

    public static void main(String[] args) throws IOException, InterruptedException {
        readme = Files.readString(Path.of("README.md"));
        theProgramPrintsWhatIsSaid();
        eachCallIsNamed();
        allTestsCanBeRun();
        oneTestCanBeRun();
        eachTestIsNamed();
        eachFileIsThere();
        due.end();
    }
}
