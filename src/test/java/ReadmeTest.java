import java.io.IOException;
import java.nio.charset.StandardCharsets;
import java.nio.file.Files;
import java.nio.file.Path;
import java.util.Comparator;
import java.util.List;
import java.util.regex.Matcher;
import java.util.regex.Pattern;
import java.util.stream.Stream;

/** The example of README.md, tried as it stands: what it prints, and what each of its calls answers. */
public final class ReadmeTest {
    private static final Path SOURCE = Path.of("src/main/java/JointLoans.java");
    /** A call with the number that stands behind it, and perhaps a variable that takes it. */
    private static final Pattern CALL = Pattern.compile("\\s*(?:int (\\w+) = )?(group\\..*\\)); +// (-?\\d+): .*");
    private static final int CALLS = 18;

    private static int wrong = 0;

    private static void complain(String what) {
        wrong++;
        System.out.println(what);
    }

    /** The first text of README.md that fits the pattern's group. */
    private static String part(String readme, String pattern) {
        Matcher found = Pattern.compile(pattern, Pattern.DOTALL).matcher(readme);
        if (!found.find()) {
            complain("README.md has no " + pattern);
            return "";
        }
        return found.group(1);
    }

    /** The example, in which each call with a number behind it complains if it answers another one. */
    private static String checked(String example) {
        StringBuilder code = new StringBuilder();
        int calls = 0;
        for (String line : example.split("\n")) {
            Matcher call = CALL.matcher(line);
            if (!call.matches()) {
                code.append(line).append('\n');
                continue;
            }
            calls++;
            String name = call.group(1) == null ? "answer" + calls : call.group(1);
            code.append("int " + name + " = " + call.group(2) + ";\n");
            code.append("if (" + name + " != " + call.group(3) + ") System.out.println(\"" + call.group(2)
                + " answered \" + " + name + " + \", README.md says " + call.group(3) + "\");\n");
        }
        if (calls != CALLS) {
            complain("the example has " + calls + " calls with a number behind them, due are " + CALLS);
        }
        return code.toString();
    }

    /** Carries out the commands where Example.java and JointLoans.java are; tells what they print. */
    private static String printed(String example, String commands) throws IOException, InterruptedException {
        Path place = Files.createTempDirectory("readme");
        try {
            Files.copy(SOURCE, place.resolve("JointLoans.java"));
            Files.writeString(place.resolve("Example.java"), example);
            Process process = new ProcessBuilder(List.of("sh", "-e", "-c", commands)).directory(place.toFile())
                .redirectErrorStream(true).start();
            String text = new String(process.getInputStream().readAllBytes(), StandardCharsets.UTF_8);
            int exit = process.waitFor();
            return exit == 0 ? text.strip() : text + "exit " + exit;
        } finally {
            delete(place);
        }
    }

    private static void delete(Path place) throws IOException {
        try (Stream<Path> all = Files.walk(place)) {
            for (Path each : all.sorted(Comparator.reverseOrder()).toList()) {
                Files.delete(each);
            }
        }
    }

    public static void main(String[] args) throws Exception {
        String readme = Files.readString(Path.of("README.md"));
        String example = part(readme, "```java\n(.*?)```");
        String commands = part(readme, "```sh\n(.*?)```");
        String due = part(readme, "This prints `([^`]*)`");
        for (String each : List.of(example, checked(example))) {
            String printed = printed(each, commands);
            if (!printed.equals(due)) {
                complain("the example printed " + printed + ", README.md says " + due);
            }
        }
        System.out.println(wrong == 0 ? "the example is right" : wrong + " faults");
        if (wrong != 0) {
            System.exit(1);
        }
    }
}
