import java.io.IOException;
import java.io.OutputStream;
import java.io.PrintStream;
import java.net.URL;
import java.net.URLClassLoader;
import java.nio.file.Files;
import java.nio.file.Path;
import java.util.ArrayList;
import java.util.List;
import java.util.Set;
import java.util.regex.Pattern;
import javax.tools.ToolProvider;

/**
 * Breaks one sentence after another in a copy of the class, and tells which of them no test of SentencesTest misses.
 * A line of mutants.txt has four parts between @: a heading, how a sentence under it begins, a text that stands once
 * in the class, and the text for it that breaks the sentence.
 */
public final class Mutants {
    private static final Path CLASS = Path.of("src/main/java/PermitWeave.java");
    private static final Path LIST = Path.of("src/mutants/mutants.txt");
    private static final Path TESTS = Path.of("src/test/java");
    private static final Path BUILD = Path.of("build/mutants");

    private Mutants() {
    }

    private static boolean compiles(Path folder, Path... files) throws IOException {
        Files.createDirectories(folder);
        List<String> arguments = new ArrayList<>(List.of("-d", folder.toString(), "-sourcepath", TESTS.toString()));
        for (Path file : files) {
            arguments.add(file.toString());
        }
        return ToolProvider.getSystemJavaCompiler().run(null, null, null, arguments.toArray(new String[0])) == 0;
    }

    /** So that a mutant's text may stand over the end of a line. */
    private static String inOneLine(String text) {
        return text.replaceAll("//[^\n]*", "").replaceAll("\\s+", " ");
    }

    /** The sentences that fail with the class of the first folder and the tests of the second. */
    @SuppressWarnings("unchecked")
    private static Set<String> broken(Path mutant, Path tests) throws Exception {
        URL[] places = {mutant.toUri().toURL(), tests.toUri().toURL()};
        PrintStream out = System.out;
        try (URLClassLoader loader = new URLClassLoader(places, ClassLoader.getPlatformClassLoader())) {
            System.setOut(new PrintStream(OutputStream.nullOutputStream()));
            var asked = loader.loadClass("SentencesTest").getDeclaredMethod("broken");
            asked.setAccessible(true);
            return (Set<String>) asked.invoke(null);
        } finally {
            System.setOut(out);
        }
    }

    private static boolean isCaught(String line, String text, int number, Path tests) throws Exception {
        String[] parts = line.split(" +@ +");
        if (parts.length != 4 || text.split(Pattern.quote(parts[2]), -1).length != 2) {
            System.out.println("its text stands not once in the class: " + line);
            return false;
        }
        Path folder = BUILD.resolve(String.valueOf(number));
        Files.createDirectories(folder);
        Path file = folder.resolve("PermitWeave.java");
        Files.writeString(file, text.replace(parts[2], parts[3]));
        Set<String> broken = compiles(folder, file) ? broken(folder, tests) : Set.of("the compiler");
        for (String sentence : broken) {
            if (sentence.startsWith(parts[0] + " | " + parts[1])) {
                return true;
            }
        }
        System.out.println("not caught by its sentence, but by " + broken + ": " + line);
        return false;
    }

    public static void main(String[] args) throws Exception {
        Path tests = BUILD.resolve("tests");
        compiles(tests, CLASS, TESTS.resolve("SentencesTest.java"));
        String text = inOneLine(Files.readString(CLASS));
        List<String> lines = Files.readAllLines(LIST);
        int made = 0;
        int caught = 0;
        for (String line : lines) {
            if (!line.isBlank() && !line.startsWith("#")) {
                made++;
                caught += isCaught(line, text, made, tests) ? 1 : 0;
            }
        }
        System.out.println(made + " mutants, " + caught + " caught");
        System.exit(caught == made ? 0 : 1);
    }
}
