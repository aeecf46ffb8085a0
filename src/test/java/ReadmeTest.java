import java.io.ByteArrayOutputStream;
import java.io.PrintStream;
import java.lang.reflect.Method;
import java.lang.reflect.Modifier;
import java.net.URL;
import java.net.URLClassLoader;
import java.nio.charset.StandardCharsets;
import java.nio.file.Files;
import java.nio.file.Path;
import javax.tools.JavaCompiler;
import javax.tools.ToolProvider;

/** The program that README.md shows compiles and prints what README.md says. */
public final class ReadmeTest {
    private static final String PROGRAM = "A whole program, `Example.java`:";
    private static final String ANSWERS = "It prints:";

    public static void main(String[] args) throws Exception {
        String readme = Files.readString(Path.of("README.md"));
        String wanted = blockBehind(readme, ANSWERS, "```text\n");
        String printed = run(blockBehind(readme, PROGRAM, "```java\n"));
        boolean isMissing = namesMissing(readme);
        if (!printed.equals(wanted)) {
            System.out.println("README.md's program printed\n" + printed + "but README.md says\n" + wanted);
        }
        if (isMissing || !printed.equals(wanted)) {
            System.exit(1);
        }
        System.out.println("readme: its program prints what it says");
    }

    private static String blockBehind(String text, String words, String opening) {
        int from = text.indexOf(opening, text.indexOf(words)) + opening.length();
        return text.substring(from, text.indexOf("```", from));
    }

    private static String run(String program) throws Exception {
        Path folder = Files.createTempDirectory("readme");
        Path file = Files.writeString(folder.resolve("Example.java"), program);
        JavaCompiler compiler = ToolProvider.getSystemJavaCompiler();
        int failed = compiler.run(null, null, null, "-cp", System.getProperty("java.class.path"), "-d", folder.toString(),
                file.toString());
        String printed = failed == 0 ? printedBy(folder) : "nothing: it does not compile\n";
        Files.deleteIfExists(folder.resolve("Example.class"));
        Files.delete(file);
        Files.delete(folder);
        return printed;
    }

    private static String printedBy(Path folder) throws Exception {
        PrintStream usual = System.out;
        ByteArrayOutputStream bytes = new ByteArrayOutputStream();
        try (URLClassLoader loader = new URLClassLoader(new URL[] {folder.toUri().toURL()})) {
            Method main = loader.loadClass("Example").getMethod("main", String[].class);
            System.setOut(new PrintStream(bytes, true, StandardCharsets.ISO_8859_1));
            main.invoke(null, (Object) new String[0]);
        } finally {
            System.setOut(usual);
        }
        return bytes.toString(StandardCharsets.ISO_8859_1).replace(System.lineSeparator(), "\n");
    }

    /** README.md tells what each call of the face is for. */
    private static boolean namesMissing(String readme) {
        boolean isMissing = false;
        for (Method method : DeskDays.class.getDeclaredMethods()) {
            boolean isPublic = Modifier.isPublic(method.getModifiers());
            if (isPublic && !readme.contains("`" + method.getName() + "`")) {
                System.out.println("README.md does not tell of " + method.getName());
                isMissing = true;
            }
        }
        return isMissing;
    }
}
