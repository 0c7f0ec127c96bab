import java.io.IOException;
import java.lang.reflect.Method;
import java.lang.reflect.Modifier;
import java.net.URL;
import java.net.URLClassLoader;
import java.nio.file.Files;
import java.nio.file.Path;
import java.util.ArrayList;
import java.util.List;
import java.util.Set;
import java.util.TreeSet;
import java.util.regex.Matcher;
import java.util.regex.Pattern;
import javax.tools.JavaCompiler;
import javax.tools.ToolProvider;

/** README.md's Java is compiled as it stands there, and each call answers what is said behind it; none of the face is left out. */
public final class DoorVoiceReadme {
    private static final Path README = Path.of("README.md");
    private static final String FENCE = "```";
    private static final String NEW_OBJECT = "DoorVoice street = new DoorVoice();";
    private static final Pattern CALL = Pattern.compile("(street\\.(\\w+)\\(.*\\)); +// ([^:]+): .+");
    private static final int CALLS = 512;

    private static int wrong = 0;

    public static void main(String[] args) throws Exception {
        List<String> lines = Files.readAllLines(README);
        Set<String> shown = new TreeSet<>();
        String program = programOf(lines, shown);
        if (!shown.equals(face())) fail("README.md shows " + shown + ", due is " + face());
        namesEachTest(lines);
        if (wrong == 0) runProgram(program);
        System.out.println(wrong == 0 ? "README.md's calls answer as it says" : wrong + " things are not as README.md says");
        if (wrong != 0) System.exit(1);
    }

    private static void fail(String what) {
        wrong++;
        System.out.println(what);
    }

    /** Called by the program that is made of README.md. */
    public static void due(String call, long got, long want) {
        if (got != want) fail(call + " answered " + got + ", README.md says " + want);
    }

    private static Set<String> face() {
        Set<String> names = new TreeSet<>();
        for (Method m : DoorVoice.class.getDeclaredMethods()) if (Modifier.isPublic(m.getModifiers())) names.add(m.getName());
        return names;
    }

    /** Each block of Java is a block of the program, so that each has an object of its own. */
    private static String programOf(List<String> lines, Set<String> shown) {
        StringBuilder program = new StringBuilder("public final class Shown {\n    public static void run() {\n");
        boolean inBlock = false;
        int calls = 0;
        for (int i = 0; i < lines.size(); i++) {
            String line = lines.get(i);
            if (line.startsWith(FENCE)) {
                if (!inBlock && !line.equals(FENCE + "java")) fail("line " + (i + 1) + ": a block that is not tried");
                inBlock = !inBlock;
                calls = 0;
                program.append(inBlock ? "{\n" : "}\n");
            } else if (inBlock && line.equals(NEW_OBJECT)) {
                program.append(line).append('\n');
            } else if (inBlock) {
                calls++;
                if (calls > CALLS) fail("line " + (i + 1) + ": more than " + CALLS + " calls");
                program.append(checked(i + 1, line, shown)).append('\n');
            }
        }
        return program.append("    }\n}\n").toString();
    }

    private static String checked(int number, String line, Set<String> shown) {
        Matcher m = CALL.matcher(line);
        if (!m.matches()) {
            fail("line " + number + " is no call with its answer: " + line);
            return "";
        }
        shown.add(m.group(2));
        String answer = m.group(3).replaceAll("[A-Z]+", "DoorVoice.$0");
        String text = "line " + number + ": " + m.group(1).replace("\\", "\\\\").replace("\"", "\\\"");
        return "DoorVoiceReadme.due(\"" + text + "\", " + m.group(1) + ", " + answer + ");";
    }

    /** The list of tests is whole. */
    private static void namesEachTest(List<String> lines) throws IOException {
        String all = String.join("\n", lines);
        try (var files = Files.newDirectoryStream(Path.of("src/test/java"), "*.java")) {
            for (Path file : files) {
                String name = file.getFileName().toString().replace(".java", "");
                if (!all.contains("- `" + name + "`: ")) fail("README.md does not tell of " + name);
            }
        }
    }

    private static void runProgram(String program) throws Exception {
        Path place = Files.createTempDirectory("readme");
        List<Path> made = new ArrayList<>(List.of(place.resolve("Shown.class"), place.resolve("Shown.java"), place));
        try {
            Files.writeString(made.get(1), program);
            JavaCompiler compiler = ToolProvider.getSystemJavaCompiler();
            int code = compiler.run(null, null, null, "-cp", System.getProperty("java.class.path"), "-d", place.toString(), made.get(1).toString());
            if (code != 0) {
                fail("README.md's Java does not compile");
                return;
            }
            try (URLClassLoader loader = new URLClassLoader(new URL[] {place.toUri().toURL()})) {
                loader.loadClass("Shown").getMethod("run").invoke(null);
            }
        } finally {
            for (Path path : made) Files.deleteIfExists(path);
        }
    }
}
