import java.io.ByteArrayOutputStream;
import java.io.IOException;
import java.io.PrintStream;
import java.net.URL;
import java.net.URLClassLoader;
import java.nio.file.Files;
import java.nio.file.Path;
import java.util.Set;
import java.util.TreeSet;
import java.util.stream.Stream;
import javax.tools.JavaCompiler;
import javax.tools.ToolProvider;

/** README.md: its program compiles and prints what the page says, and each call and test is on the page. */
public final class ReadmeTest {
    private static final String FENCE = "```";

    public static void main(String[] args) throws Exception {
        String page = Files.readString(Path.of("README.md"));
        String program = block(page, "java");
        String[] due = block(page, "text").split("\n");
        String[] got = printed(program).split("\\R");
        Check.due("lines that are printed", got.length, due.length);
        for (int i = 0; i < Math.min(got.length, due.length); i++) {
            Check.due("'" + got[i] + "' is on the page as '" + due[i] + "'", got[i].equals(due[i]), true);
        }
        callsAreTold(page);
        testsAreTold(page);
        Check.due("how to run the tests", page.contains("\n.ci/run\n"), true);
        Check.end("ReadmeTest");
    }

    /** The first block of a sort. */
    private static String block(String page, String sort) {
        String head = "\n" + FENCE + sort + "\n";
        int start = page.indexOf(head);
        int end = start < 0 ? -1 : page.indexOf("\n" + FENCE, start + head.length());
        Check.due("a block of " + sort, start >= 0 && end >= 0, true);
        return end < 0 ? "" : page.substring(start + head.length(), end);
    }

    private static String printed(String program) throws Exception {
        Path work = Files.createTempDirectory("readme");
        try {
            Path source = work.resolve("Example.java");
            Files.writeString(source, program + "\n");
            JavaCompiler compiler = ToolProvider.getSystemJavaCompiler();
            int failed = compiler.run(null, null, null, "-d", work.toString(), "-cp", System.getProperty("java.class.path"), source.toString());
            Check.due("the program of README.md compiles", failed, 0);
            return failed != 0 ? "" : run(work);
        } finally {
            remove(work);
        }
    }

    private static String run(Path work) throws Exception {
        PrintStream before = System.out;
        ByteArrayOutputStream kept = new ByteArrayOutputStream();
        try (URLClassLoader loader = new URLClassLoader(new URL[] {work.toUri().toURL()}, ReadmeTest.class.getClassLoader())) {
            System.setOut(new PrintStream(kept, true));
            loader.loadClass("Example").getMethod("main", String[].class).invoke(null, (Object) new String[0]);
        } finally {
            System.setOut(before);
        }
        return kept.toString();
    }

    private static void remove(Path work) throws IOException {
        try (Stream<Path> files = Files.list(work)) {
            for (Path file : files.toList()) {
                Files.delete(file);
            }
        }
        Files.delete(work);
    }

    private static void callsAreTold(String page) {
        Set<String> names = new TreeSet<>();
        for (var method : NorthVines.class.getMethods()) {
            if (method.getDeclaringClass() == NorthVines.class) {
                names.add(method.getName());
            }
        }
        Check.due("calls", names.size(), 52);
        for (String name : names) {
            Check.due("a row of the table has " + name, page.contains("`" + name + "`"), true);
        }
    }

    private static void testsAreTold(String page) throws IOException {
        try (Stream<Path> files = Files.list(Path.of("src/test/java"))) {
            for (Path file : files.toList()) {
                String name = file.getFileName().toString().replace(".java", "");
                Check.due("the page has " + name, !name.endsWith("Test") || page.contains(name), true);
            }
        }
    }
}
