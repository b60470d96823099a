import java.lang.reflect.Method;
import java.lang.reflect.Modifier;
import java.net.URL;
import java.net.URLClassLoader;
import java.nio.file.Files;
import java.nio.file.Path;
import java.util.regex.Matcher;
import java.util.regex.Pattern;

/** The example of README.md compiles as it stands, and each of its calls answers what is written behind it. */
public final class ReadmeTest {
    private static final int FEWEST = 40;
    private static final Pattern BLOCK = Pattern.compile("```java\n(.*?)```", Pattern.DOTALL);
    private static final Pattern CALL =
        Pattern.compile("^( +)(?:int (\\w+) = )?((?:x\\.\\w+|law)\\(.*\\));\\s+// (-?\\d+|true|false)(?::.*)?$");
    private static final Due DUE = new Due();

    public static void main(String[] args) throws Exception {
        Matcher block = BLOCK.matcher(Files.readString(Path.of("README.md")));
        DUE.is("README.md has an example", block.find(), true);
        String example = block.group(1);
        run(example);
        String held = held(example);
        String calls = held.substring(0, held.indexOf("/**"));
        DUE.is("a call without its answer", calls.contains("\n        x."), false);
        run(held);
        tellsEveryCall();
        DUE.close("ReadmeTest");
    }

    /** Called by the example when each of its calls has become one that is held against its answer. */
    public static void due(String call, long got, long want) {
        DUE.is("README.md: " + call, got, want);
    }

    public static void due(String call, boolean got, boolean want) {
        DUE.is("README.md: " + call, got, want);
    }

    private static String held(String example) {
        StringBuilder all = new StringBuilder();
        int calls = 0;
        for (String line : example.split("\n")) {
            Matcher call = CALL.matcher(line);
            if (call.matches()) {
                calls++;
                String told = call.group(3).replace("\"", "\\\"");
                String name = call.group(2) == null ? "answer" + calls : call.group(2);
                all.append(call.group(1)).append("var ").append(name).append(" = ").append(call.group(3)).append("; ");
                all.append("ReadmeTest.due(\"").append(told).append("\", ").append(name).append(", ");
                all.append(call.group(4)).append(");\n");
            } else {
                all.append(line).append('\n');
            }
        }
        DUE.is("calls of the example", calls >= FEWEST, true);
        return all.toString();
    }

    private static void run(String example) throws Exception {
        Path folder = Files.createTempDirectory("readme");
        Path source = folder.resolve("Example.java");
        Files.writeString(source, example);
        int fault = new ProcessBuilder("javac", "-cp", System.getProperty("java.class.path"), "-d", folder.toString(),
            source.toString()).inheritIO().start().waitFor();
        DUE.is("the example compiles: its fault", fault, 0);
        try (URLClassLoader loader = new URLClassLoader(new URL[] {folder.toUri().toURL()})) {
            loader.loadClass("Example").getMethod("main", String[].class).invoke(null, (Object) new String[0]);
        }
        try (var files = Files.list(folder)) {
            for (Path file : files.toList()) {
                Files.delete(file);
            }
        }
        Files.delete(folder);
    }

    private static void tellsEveryCall() throws Exception {
        String text = Files.readString(Path.of("README.md"));
        for (Method m : EachLater.class.getDeclaredMethods()) {
            if (Modifier.isPublic(m.getModifiers())) {
                DUE.is("README.md tells of " + m.getName(), text.contains("`" + m.getName() + "`"), true);
            }
        }
    }
}
