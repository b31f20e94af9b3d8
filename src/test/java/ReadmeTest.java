import java.lang.invoke.MethodHandles;
import java.lang.reflect.Method;
import java.lang.reflect.Modifier;
import java.nio.file.Files;
import java.nio.file.Path;
import java.util.List;
import java.util.regex.Matcher;
import java.util.regex.Pattern;

/** Does the calls that README.md shows, as they stand there, and compares the answers that it names. */
public final class ReadmeTest {
    private static final String MADE = "ReadmeAsTest";
    // "call; // answer: words" or "call; // throws exception: words", the call with or without "type name = ".
    private static final Pattern SHOWN =
        Pattern.compile("(?:(\\w+) (\\w+) = )?([^;]+);\\s+// (throws )?(-?\\w+)(?:: .*)?");

    private int answers = 0;

    public static void main(String[] args) throws Exception {
        List<String> readme = Files.readAllLines(Path.of("README.md"));
        String source = new ReadmeTest().sourceOf(readme);
        everyMethodIsShown(source);
        Runnable calls = compiled(source);
        Check.sentence("README.md", calls);
        Check.end();
    }

    /** Line n of it does what line n of README.md shows, so that the compiler too tells the place there. */
    private String sourceOf(List<String> readme) {
        StringBuilder source = new StringBuilder("final class " + MADE + " implements Runnable { public void run() {");
        boolean inBlock = false;
        for (int i = 0; i < readme.size(); i++) {
            String line = readme.get(i);
            if (line.startsWith("```")) {
                inBlock = line.equals("```java");
            } else if (inBlock) {
                source.append(checked(line.strip(), i + 1));
            }
            source.append('\n');
        }
        Check.due("README.md names answers", answers > 0 ? 1 : 0, 1);
        return source.append("} }\n").toString();
    }

    private String checked(String line, int number) {
        if (!line.contains("//")) {
            return line;
        }
        Matcher shown = SHOWN.matcher(line);
        String place = "\"line " + number + "\", ";
        if (!shown.matches()) {
            Check.failed("line " + number + " of README.md names no answer that can be compared: " + line);
            return line;
        }
        answers++;
        String call = shown.group(3);
        String due = shown.group(5);
        if (shown.group(4) != null) {
            return "Check.dueThrow(" + place + due + ".class, () -> { " + call + "; return 0; });";
        }
        if (shown.group(2) == null) {
            return "Check.due(" + place + call + ", " + due + ");";
        }
        String name = shown.group(2);
        return shown.group(1) + " " + name + " = " + call + "; Check.due(" + place + name + ", " + due + ");";
    }

    private static void everyMethodIsShown(String source) {
        for (Method method : ChunkCode.class.getDeclaredMethods()) {
            boolean shown = source.contains("." + method.getName() + "(");
            if (Modifier.isPublic(method.getModifiers()) && !shown) {
                Check.failed("README.md shows no call of " + method.getName());
            }
        }
    }

    private static Runnable compiled(String source) throws Exception {
        Path room = Files.createTempDirectory("readme");
        Path file = room.resolve(MADE + ".java");
        Path made = room.resolve(MADE + ".class");
        try {
            Files.writeString(file, source);
            Process javac = new ProcessBuilder("javac", "-encoding", "UTF-8", "-cp",
                System.getProperty("java.class.path"), "-d", room.toString(), file.toString()).inheritIO().start();
            if (javac.waitFor() != 0) {
                return () -> Check.failed("what README.md shows doesn't compile");
            }
            // Defined beside this class, as it calls Check, which is no public class.
            Class<?> calls = MethodHandles.lookup().defineClass(Files.readAllBytes(made));
            return (Runnable) calls.getDeclaredConstructor().newInstance();
        } finally {
            Files.deleteIfExists(made);
            Files.deleteIfExists(file);
            Files.delete(room);
        }
    }
}
