import java.io.File;
import java.io.IOException;
import java.lang.reflect.Method;
import java.lang.reflect.Modifier;
import java.net.URL;
import java.net.URLClassLoader;
import java.nio.file.Files;
import java.nio.file.Path;
import java.util.ArrayList;
import java.util.List;
import java.util.regex.Matcher;
import java.util.regex.Pattern;
import java.util.stream.Stream;
import javax.tools.JavaCompiler;
import javax.tools.ToolProvider;

/** README.md's Java is compiled as it stands there, and each call is held against the answer told behind it. */
public final class ReadmeTest {
    private static final Pattern TOLD = Pattern.compile("(\\S.*\\));\\s+// (true|false|NONE|-?\\d+)(:.*)?");
    private static int wrong = 0;
    private static int calls = 0;

    private ReadmeTest() { }

    public static void main(String[] args) throws Exception {
        List<String> members = new ArrayList<>();
        List<String> lines = new ArrayList<>();
        for (List<String> block : blocks()) {
            (block.get(0).startsWith("static ") ? members : lines).addAll(block);
        }
        everyMethodIsShown(String.join("\n", members) + String.join("\n", lines));
        Path folder = Files.createTempDirectory("readme");
        try {
            ask(folder, programOf(members, lines));
        } finally {
            remove(folder);
        }
        System.out.println("README.md: " + calls + " calls, " + wrong + " wrong");
        if (wrong != 0 || calls == 0) {
            System.exit(1);
        }
    }

    /** The made program hands in each answer here. */
    public static void due(String call, Object got, String told) {
        calls++;
        String want = told.equals("NONE") ? String.valueOf(PlateCity.NONE) : told;
        if (!String.valueOf(got).equals(want)) {
            complain(call + " answered " + got + ", README.md says " + told);
        }
    }

    private static void complain(String text) {
        wrong++;
        System.out.println(text);
    }

    private static List<List<String>> blocks() throws IOException {
        List<List<String>> blocks = new ArrayList<>();
        List<String> block = null;
        for (String line : Files.readAllLines(Path.of("README.md"))) {
            if (block == null && line.equals("```java")) {
                block = new ArrayList<>();
            } else if (block != null && line.equals("```")) {
                blocks.add(block);
                block = null;
            } else if (block != null) {
                block.add(line);
            }
        }
        return blocks;
    }

    private static void everyMethodIsShown(String text) {
        for (Method each : PlateCity.class.getDeclaredMethods()) {
            if (Modifier.isPublic(each.getModifiers()) && !text.contains("x." + each.getName() + "(")) {
                complain("README.md does not show " + each.getName());
            }
        }
    }

    private static String programOf(List<String> members, List<String> lines) {
        StringBuilder program = new StringBuilder("public final class ReadmeCalls {\n");
        members.forEach(line -> program.append(line).append('\n'));
        program.append("public static void main(String[] args) {\n");
        for (String line : lines) {
            Matcher told = TOLD.matcher(line);
            if (told.matches()) {
                program.append("ReadmeTest.due(\"").append(told.group(1).replace("\"", "\\\"")).append("\", ")
                    .append(told.group(1)).append(", \"").append(told.group(2)).append("\");\n");
                continue;
            }
            if (!line.isBlank() && !line.startsWith("//") && !line.startsWith("PlateCity x = ")) {
                complain("README.md tells no answer behind " + line);
            }
            program.append(line).append('\n');
        }
        return program.append("}\n}\n").toString();
    }

    private static void ask(Path folder, String program) throws Exception {
        Path file = Files.writeString(folder.resolve("ReadmeCalls.java"), program);
        JavaCompiler compiler = ToolProvider.getSystemJavaCompiler();
        int code = compiler.run(null, null, null, "-proc:none", "-cp", System.getProperty("java.class.path"),
            "-d", folder.toString(), file.toString());
        if (code != 0) {
            complain("README.md's calls do not compile");
            return;
        }
        try (URLClassLoader loader = new URLClassLoader(new URL[] {folder.toUri().toURL()})) {
            loader.loadClass("ReadmeCalls").getMethod("main", String[].class).invoke(null, (Object) new String[0]);
        }
    }

    private static void remove(Path folder) throws IOException {
        try (Stream<Path> files = Files.list(folder)) {
            files.map(Path::toFile).forEach(File::delete);
        }
        Files.delete(folder);
    }
}
