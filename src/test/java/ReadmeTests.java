import java.io.IOException;
import java.nio.file.Files;
import java.nio.file.Path;
import java.util.ArrayList;
import java.util.Comparator;
import java.util.List;
import java.util.Set;
import java.util.TreeSet;
import java.util.regex.Matcher;
import java.util.regex.Pattern;
import java.util.stream.Stream;

/** What README.md says is so; the root of the project is the argument. */
public final class ReadmeTests {
    private static final String PROGRAM = "src/main/java/Meeplehouse.java";

    private ReadmeTests() {
    }

    public static void main(String[] args) throws IOException, InterruptedException {
        if (args.length != 1) {
            System.out.println("the root of the project is needed");
            System.exit(1);
        }
        Path root = Path.of(args[0]);
        String page = Files.readString(root.resolve("README.md"));
        Check.part("README.md, its program");
        Check.same("prints", block(page, "text"), printed(root, block(page, "java"), block(page, "sh")));
        Check.part("README.md, its tests");
        Check.same("tests", testsOf(root).toString(), testsNamed(page).toString());
        Check.end();
    }

    private static String block(String page, String language) {
        Matcher found = Pattern.compile("\n```" + language + "\n(.*?)```\n", Pattern.DOTALL).matcher(page);
        return found.find() ? found.group(1) : "no block of " + language;
    }

    /** Runs the page's commands where only the class and the page's program are. */
    private static String printed(Path root, String program, String commands) throws IOException, InterruptedException {
        Path place = Files.createTempDirectory("readme");
        try {
            Files.createDirectories(place.resolve(PROGRAM).getParent());
            Files.copy(root.resolve(PROGRAM), place.resolve(PROGRAM));
            Files.writeString(place.resolve("Evening.java"), program);
            ProcessBuilder shell = new ProcessBuilder("sh", "-euc", commands);
            Process run = shell.directory(place.toFile()).redirectError(ProcessBuilder.Redirect.INHERIT).start();
            String text = new String(run.getInputStream().readAllBytes());
            Check.due("the commands' exit code", 0, run.waitFor());
            return text;
        } finally {
            delete(place);
        }
    }

    private static void delete(Path place) throws IOException {
        List<Path> all = new ArrayList<>();
        try (Stream<Path> inside = Files.walk(place)) {
            inside.sorted(Comparator.reverseOrder()).forEach(all::add);
        }
        for (Path path : all) {
            Files.delete(path);
        }
    }

    private static Set<String> testsOf(Path root) throws IOException {
        Set<String> names = new TreeSet<>();
        try (Stream<Path> inside = Files.list(root.resolve("src/test/java"))) {
            inside.map(path -> path.getFileName().toString()).filter(name -> name.endsWith("Tests.java"))
                .forEach(name -> names.add(name.replace(".java", "")));
        }
        return names;
    }

    private static Set<String> testsNamed(String page) {
        Set<String> names = new TreeSet<>();
        Matcher named = Pattern.compile("`(\\w+Tests)`").matcher(page);
        while (named.find()) {
            names.add(named.group(1));
        }
        return names;
    }
}
