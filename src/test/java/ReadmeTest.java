import java.io.ByteArrayOutputStream;
import java.io.IOException;
import java.io.PrintStream;
import java.net.URL;
import java.net.URLClassLoader;
import java.nio.charset.StandardCharsets;
import java.nio.file.Files;
import java.nio.file.Path;
import javax.tools.ToolProvider;

/** The example in README.md compiles, and prints what README.md says. */
public final class ReadmeTest {
    private static String block(String text, String language) {
        String fence = "```" + language + "\n";
        int from = text.indexOf(fence);
        int to = from < 0 ? -1 : text.indexOf("```\n", from + fence.length());
        return to < 0 ? "" : text.substring(from + fence.length(), to);
    }

    private static String printed(String code) throws IOException, ReflectiveOperationException {
        Path out = Path.of("build", "ReadmeExample");
        Files.createDirectories(out);
        Path file = out.resolve("Example.java");
        Files.writeString(file, code);
        int failed = ToolProvider.getSystemJavaCompiler().run(null, null, null, "-d", out.toString(), file.toString(),
            Path.of("src", "main", "java", "RotaMuseum.java").toString());
        Kit.due("the example compiles", failed, 0);
        ByteArrayOutputStream bytes = new ByteArrayOutputStream();
        PrintStream former = System.out;
        try (URLClassLoader loader = new URLClassLoader(new URL[] {out.toUri().toURL()}, null)) {
            System.setOut(new PrintStream(bytes, true, StandardCharsets.UTF_8));
            loader.loadClass("Example").getMethod("main", String[].class).invoke(null, (Object) new String[0]);
        } finally {
            System.setOut(former);
        }
        return bytes.toString(StandardCharsets.UTF_8).replace("\r", "");
    }

    public static void main(String[] args) throws IOException, ReflectiveOperationException {
        String readme = Files.readString(Path.of("README.md")).replace("\r", "");
        String printed = printed(block(readme, "java"));
        boolean same = printed.equals(block(readme, "text"));
        Kit.due("the example prints what README.md says", same, true);
        if (!same) {
            System.out.println(printed);
        }
        Kit.finish("ReadmeTest");
    }
}
