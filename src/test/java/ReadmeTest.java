import java.io.IOException;
import java.lang.reflect.InvocationTargetException;
import java.lang.reflect.Method;
import java.net.URL;
import java.net.URLClassLoader;
import java.nio.file.Files;
import java.nio.file.Path;
import java.util.ArrayList;
import java.util.List;
import java.util.regex.Matcher;
import java.util.regex.Pattern;
import javax.tools.ToolProvider;

/**
 * The example of README.md, as it stands there: it compiles, and a row whose comment begins with a number
 * answers that number. It is run from the project's own folder, as .ci/run does.
 */
public final class ReadmeTest {

    /** A row that is nothing but a call, and the number that its comment tells. */
    private static final Pattern ANSWER = Pattern.compile("(table\\.\\w+\\(.*?\\)); *// (-?\\d+)\\b.*");

    private static final String FENCE = "```";

    private static final int LEAST_ANSWERS = 3;

    private final List<String> calls = new ArrayList<>();
    private final List<Integer> due = new ArrayList<>();
    private final StringBuilder program = new StringBuilder();

    public static void main(String[] args) throws IOException, ReflectiveOperationException {
        String readme = Files.readString(Path.of("README.md"));
        int begin = readme.indexOf(FENCE + "java\n");
        int end = begin < 0 ? -1 : readme.indexOf("\n" + FENCE, begin);
        Due.is("README.md has an example", end > begin ? 1 : 0, 1);
        if (end > begin) {
            ReadmeTest test = new ReadmeTest();
            test.take(readme.substring(begin, end).split("\n"));
            test.run();
        }
        Due.end();
    }

    /** The example begins behind the row of the fence. */
    private void take(String[] rows) {
        program.append("final class ReadmeExample { static java.util.List<Integer> go() {\n");
        program.append("java.util.List<Integer> answers = new java.util.ArrayList<>();\n");
        for (int i = 1; i < rows.length; i++) {
            Matcher answer = ANSWER.matcher(rows[i]);
            if (answer.matches()) {
                calls.add(answer.group(1));
                due.add(Integer.valueOf(answer.group(2)));
                program.append("answers.add(").append(answer.group(1)).append(");\n");
            } else {
                program.append(rows[i]).append('\n');
            }
        }
        program.append("return answers; } }\n");
        Due.is("the example tells of answers", due.size() >= LEAST_ANSWERS ? 1 : 0, 1);
    }

    private void run() throws IOException, ReflectiveOperationException {
        Path folder = Files.createTempDirectory("readme");
        Path source = folder.resolve("ReadmeExample.java");
        try {
            Files.writeString(source, program);
            int exit = ToolProvider.getSystemJavaCompiler().run(null, System.out, System.out, "-cp",
                    System.getProperty("java.class.path"), "-d", folder.toString(), source.toString());
            Due.is("exit of javac on the example", exit, 0);
            if (exit == 0) {
                ask(folder);
            }
        } finally {
            for (Path file : List.of(source, folder.resolve("ReadmeExample.class"), folder)) {
                Files.deleteIfExists(file);
            }
        }
    }

    private void ask(Path folder) throws IOException, ReflectiveOperationException {
        try (URLClassLoader loader = new URLClassLoader(new URL[] {folder.toUri().toURL()})) {
            Method go = loader.loadClass("ReadmeExample").getDeclaredMethod("go");
            // A class of another loader is in another package, even without a package line.
            go.setAccessible(true);
            List<?> answers = (List<?>) go.invoke(null);
            for (int i = 0; i < due.size(); i++) {
                Due.is("README.md: " + calls.get(i), String.valueOf(answers.get(i)), String.valueOf(due.get(i)));
            }
        } catch (InvocationTargetException thrown) {
            Due.complain("the example threw " + thrown.getCause());
        }
    }
}
