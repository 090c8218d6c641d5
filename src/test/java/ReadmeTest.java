import java.io.ByteArrayOutputStream;
import java.io.PrintStream;
import java.net.URL;
import java.net.URLClassLoader;
import java.nio.file.Files;
import java.nio.file.Path;
import java.util.ArrayList;
import java.util.Comparator;
import java.util.List;
import java.util.stream.Stream;
import javax.tools.JavaCompiler;
import javax.tools.ToolProvider;

/**
 * The example of README.md, taken from there as it stands, so that the two can't part: it compiles with the class,
 * and each line that it prints is the answer written behind it.
 */
public final class ReadmeTest {
    private static final String BEGIN = "```java\n";
    private static final String END = "```\n";

    public static void main(String[] args) throws Exception {
        Checks checks = new Checks();
        String example = example(Files.readString(Path.of("README.md")));
        List<String> due = writtenAnswers(example);
        if (due.isEmpty()) {
            checks.isTrue("README.md shows an example with answers", false);
            checks.end();
            return;
        }
        Path folder = Files.createTempDirectory("readme");
        try {
            if (compiles(example, folder)) {
                sameLines(checks, printed(folder), due);
            } else {
                checks.isTrue("the example of README.md compiles", false);
            }
        } finally {
            remove(folder);
        }
        checks.end();
    }

    private static String example(String readme) {
        int begin = readme.indexOf(BEGIN);
        int end = begin < 0 ? -1 : readme.indexOf(END, begin + BEGIN.length());
        return end < 0 ? "" : readme.substring(begin + BEGIN.length(), end);
    }

    /** What stands behind "//" of each line that prints, up to ":"; without "//" the line itself, then wrong. */
    private static List<String> writtenAnswers(String example) {
        List<String> answers = new ArrayList<>();
        for (String line : example.split("\n")) {
            if (line.contains("System.out.println")) {
                answers.add(line.replaceFirst("^.*?// *", "").replaceFirst(":.*$", ""));
            }
        }
        return answers;
    }

    private static boolean compiles(String example, Path folder) throws Exception {
        Path source = folder.resolve("Demo.java");
        Files.writeString(source, example);
        JavaCompiler compiler = ToolProvider.getSystemJavaCompiler();
        String[] command = {
            "--release", "17", "-d", folder.toString(), "src/main/java/ZonePrint.java", source.toString(),
        };
        return compiler != null && compiler.run(null, null, null, command) == 0;
    }

    private static List<String> printed(Path folder) throws Exception {
        PrintStream usual = System.out;
        ByteArrayOutputStream printed = new ByteArrayOutputStream();
        URL[] places = {folder.toUri().toURL()};
        try (URLClassLoader loader = new URLClassLoader(places, null)) {
            System.setOut(new PrintStream(printed, true));
            loader.loadClass("Demo").getMethod("main", String[].class).invoke(null, (Object) new String[0]);
        } finally {
            System.setOut(usual);
        }
        return printed.toString().lines().toList();
    }

    private static void sameLines(Checks checks, List<String> got, List<String> due) {
        checks.same("lines that the example of README.md prints", got.size(), due.size());
        for (int place = 0; place < got.size() && place < due.size(); place++) {
            checks.isTrue("answer " + (place + 1) + " of the example of README.md is " + got.get(place)
                + ", written is " + due.get(place), got.get(place).equals(due.get(place)));
        }
    }

    private static void remove(Path folder) throws Exception {
        List<Path> inside;
        try (Stream<Path> found = Files.walk(folder)) {
            inside = found.sorted(Comparator.reverseOrder()).toList();
        }
        for (Path path : inside) {
            Files.delete(path);
        }
    }
}
