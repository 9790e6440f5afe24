import java.io.ByteArrayOutputStream;
import java.io.IOException;
import java.io.PrintStream;
import java.net.URL;
import java.net.URLClassLoader;
import java.nio.file.Files;
import java.nio.file.Path;
import java.util.regex.Matcher;
import java.util.regex.Pattern;
import javax.tools.ToolProvider;

/** The program that README.md shows has to print what stands there. Arguments: README.md, and a folder to compile into. */
public final class ReadmeTests extends Checks {
    private static String block(String readme, String language) {
        Matcher m = Pattern.compile("```" + language + "\n(.*?)```", Pattern.DOTALL).matcher(readme);
        return m.find() ? m.group(1) : "";
    }

    private static String className(String program) {
        Matcher m = Pattern.compile("public final class (\\w+)").matcher(program);
        return m.find() ? m.group(1) : "";
    }

    private static int compile(Path source, Path folder) {
        String classes = System.getProperty("java.class.path");
        return ToolProvider.getSystemJavaCompiler().run(null, null, null, "-cp", classes, "-d", folder.toString(), source.toString());
    }

    private static String printed(String name, Path folder) throws IOException, ReflectiveOperationException {
        ByteArrayOutputStream bytes = new ByteArrayOutputStream();
        PrintStream console = System.out;
        try (URLClassLoader loader = new URLClassLoader(new URL[] {folder.toUri().toURL()}, Weftpage.class.getClassLoader())) {
            System.setOut(new PrintStream(bytes, true));
            loader.loadClass(name).getMethod("main", String[].class).invoke(null, (Object) new String[0]);
        } finally {
            System.setOut(console);
        }
        return bytes.toString().replace("\r\n", "\n");
    }

    public static void main(String[] args) throws IOException, ReflectiveOperationException {
        about = "README.md";
        String readme = Files.readString(Path.of(args[0])).replace("\r\n", "\n");
        Path folder = Path.of(args[1]);
        String program = block(readme, "java");
        String name = className(program);
        is(name.isEmpty(), false);
        is(block(readme, "text").isEmpty(), false);
        Files.createDirectories(folder);
        Path source = folder.resolve(name + ".java");
        Files.writeString(source, program);
        is(compile(source, folder), 0);
        is(printed(name, folder), block(readme, "text"));
        is(readme.contains("bash .ci/run"), true);
        end("ReadmeTests");
    }
}
