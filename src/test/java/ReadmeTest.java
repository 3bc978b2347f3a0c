import java.io.IOException;
import java.io.StringWriter;
import java.net.URL;
import java.net.URLClassLoader;
import java.nio.file.Files;
import java.nio.file.Path;
import java.util.ArrayList;
import java.util.List;
import java.util.regex.Matcher;
import java.util.regex.Pattern;
import javax.tools.JavaCompiler;
import javax.tools.JavaFileObject;
import javax.tools.StandardJavaFileManager;
import javax.tools.ToolProvider;

/** README.md's calls, run as they stand there, one behind another: each answers the number told behind it. */
public final class ReadmeTest {
    private static final Pattern BLOCK = Pattern.compile("(?s)```java\n(.*?)```");
    private static final Pattern CALL = Pattern.compile("^(birds\\.\\w+\\(.*\\)); +// (-?\\d+|LOST)\\b.*$");
    private static final int LEAST_CALLS = 40;

    private final List<String> calls = new ArrayList<>();
    private final List<Long> due = new ArrayList<>();
    private final StringBuilder body = new StringBuilder();

    public static void main(String[] args) throws IOException, ReflectiveOperationException {
        ReadmeTest test = new ReadmeTest();
        test.read(Files.readString(Path.of("README.md")));
        List<Long> got = test.answers();
        // A page whose form has changed must not pass because nothing of it is looked at.
        Checks.due("README.md tells enough calls", 1, test.calls.size() >= LEAST_CALLS ? 1 : 0);
        Checks.due("all calls of README.md answer", test.calls.size(), got.size());
        for (int c = 0; c < got.size(); c++) {
            Checks.due("README.md: " + test.calls.get(c), test.due.get(c), got.get(c));
        }
        Checks.end();
    }

    private void read(String page) {
        Matcher block = BLOCK.matcher(page);
        while (block.find()) {
            for (String line : block.group(1).split("\n")) {
                Matcher call = CALL.matcher(line);
                if (call.matches()) {
                    calls.add(call.group(1));
                    due.add(call.group(2).equals("LOST") ? GalleryBirds.LOST : Long.parseLong(call.group(2)));
                    body.append("answers.add((long) ").append(call.group(1)).append(");\n");
                } else {
                    body.append(line).append('\n');
                }
            }
        }
    }

    /** What the calls answer; none if the page's program does not compile. */
    private List<Long> answers() throws IOException, ReflectiveOperationException {
        Path room = Files.createTempDirectory("readme");
        Path file = room.resolve("ReadmeRun.java");
        Path classes = room.resolve("ReadmeRun.class");
        try {
            Files.writeString(file, "public class ReadmeRun {\n"
                    + "public static void run(java.util.List<Long> answers) {\n" + body + "}\n}\n");
            List<Long> answers = new ArrayList<>();
            if (compiles(file, room)) {
                URL[] where = {room.toUri().toURL()};
                try (URLClassLoader loader = new URLClassLoader(where, ReadmeTest.class.getClassLoader())) {
                    loader.loadClass("ReadmeRun").getMethod("run", List.class).invoke(null, answers);
                }
            }
            return answers;
        } finally {
            Files.deleteIfExists(classes);
            Files.deleteIfExists(file);
            Files.deleteIfExists(room);
        }
    }

    private static boolean compiles(Path file, Path room) throws IOException {
        JavaCompiler javac = ToolProvider.getSystemJavaCompiler();
        StringWriter told = new StringWriter();
        List<String> options = List.of("-proc:none", "-d", room.toString(), "-cp", System.getProperty("java.class.path"));
        try (StandardJavaFileManager manager = javac.getStandardFileManager(null, null, null)) {
            Iterable<? extends JavaFileObject> files = manager.getJavaFileObjects(file);
            boolean is = javac.getTask(told, manager, null, options, null, files).call();
            Checks.same("what javac tells of README.md", "", told.toString());
            return is;
        }
    }
}
