import java.io.IOException;
import java.lang.reflect.Method;
import java.lang.reflect.Modifier;
import java.nio.charset.StandardCharsets;
import java.nio.file.Files;
import java.nio.file.Path;
import java.util.ArrayList;
import java.util.List;
import java.util.Set;
import java.util.TreeSet;
import java.util.regex.Matcher;
import java.util.regex.Pattern;
import java.util.stream.Stream;

/** Does what README.md shows: its command, run on its calls, must answer as the page says. */
public final class ReadmeTest extends Checks {
    private static final Path PAGE = Path.of("README.md");
    private static final Path PROGRAM = Path.of("src/main/java/PledgeRings.java");
    private static final Path TESTS = Path.of("src/test/java");

    /** A call in a line of its own, with its answer behind it, and why it is so behind a colon. */
    private static final Pattern CALL = Pattern.compile("(x\\.(\\w+)\\(.*\\)); *// (-?\\d+|NONE|throws \\w+)(: .*)?");
    private static final Pattern ANY_CALL = Pattern.compile("^x\\.");

    private final List<String> calls = new ArrayList<>();
    private final List<String> answers = new ArrayList<>();
    private final Set<String> names = new TreeSet<>();
    private final StringBuilder main = new StringBuilder();

    public static void main(String[] args) throws Exception {
        String page = Files.readString(PAGE, StandardCharsets.UTF_8);
        ReadmeTest test = new ReadmeTest();
        test.readCalls(page);
        test.namesAllOfTheFace();
        test.answersAsItSays(commandOf(page));
        namesAllTests(page);
        close("ReadmeTest");
    }

    private static List<String> blocks(String page, String language) {
        List<String> blocks = new ArrayList<>();
        Matcher block = Pattern.compile("(?ms)^```(\\w*)\n(.*?)^```$").matcher(page);
        while (block.find()) {
            if (block.group(1).equals(language)) {
                blocks.add(block.group(2));
            }
        }
        return blocks;
    }

    private static String commandOf(String page) {
        List<String> commands = blocks(page, "");
        due("the commands of the page", commands.size(), 1);
        return commands.isEmpty() ? "" : commands.get(0);
    }

    private void readCalls(String page) {
        for (String block : blocks(page, "java")) {
            for (String line : block.split("\n")) {
                readLine(line);
            }
        }
    }

    private void readLine(String line) {
        Matcher call = CALL.matcher(line);
        if (call.matches()) {
            calls.add(call.group(1));
            names.add(call.group(2));
            String answer = call.group(3);
            answers.add(answer.equals("NONE") ? Integer.toString(NONE) : answer);
            main.append("try { System.out.println(").append(call.group(1)).append("); } ")
                    .append("catch (RuntimeException e) { System.out.println(\"throws \" + e.getClass().getSimpleName()); }\n");
        } else {
            due(line + " has its answer behind it", ANY_CALL.matcher(line).find() ? "no" : "yes", "yes");
            main.append(line).append('\n');
        }
    }

    private void namesAllOfTheFace() {
        Set<String> face = new TreeSet<>();
        for (Method method : PledgeRings.class.getDeclaredMethods()) {
            if (Modifier.isPublic(method.getModifiers())) {
                face.add(method.getName());
            }
        }
        due("the calls that the page shows", names.toString(), face.toString());
    }

    private void answersAsItSays(String command) throws IOException, InterruptedException {
        Path folder = Files.createTempDirectory("readme");
        try {
            Files.createDirectories(folder.resolve(PROGRAM).getParent());
            Files.copy(PROGRAM, folder.resolve(PROGRAM));
            Files.writeString(folder.resolve("Mine.java"),
                    "public class Mine {\npublic static void main(String[] args) {\n" + main + "}\n}\n");
            List<String> got = List.of();
            for (String part : command.trim().split(" *&& *")) {
                got = run(part, folder);
            }
            due("the answers of the page's calls", got.size(), answers.size());
            for (int k = 0; k < Math.min(got.size(), answers.size()); k++) {
                due(calls.get(k), got.get(k), answers.get(k));
            }
        } finally {
            remove(folder);
        }
    }

    /** Runs one command without a shell; answers the lines that it prints. */
    private static List<String> run(String command, Path folder) throws IOException, InterruptedException {
        Process process = new ProcessBuilder(command.split(" +")).directory(folder.toFile())
                .redirectErrorStream(true).start();
        process.getOutputStream().close();
        List<String> lines = new String(process.getInputStream().readAllBytes(), StandardCharsets.UTF_8).lines().toList();
        int code = process.waitFor();
        due(command + " with exit code", code, 0);
        if (code != 0) {
            System.out.println(String.join("\n", lines));
        }
        return lines;
    }

    private static void remove(Path path) throws IOException {
        if (Files.isDirectory(path)) {
            for (Path inside : listed(path)) {
                remove(inside);
            }
        }
        Files.delete(path);
    }

    private static List<Path> listed(Path folder) throws IOException {
        try (Stream<Path> inside = Files.list(folder)) {
            return inside.toList();
        }
    }

    private static void namesAllTests(String page) throws IOException {
        due("the script of the page is there", Files.isExecutable(Path.of(".ci/run")) ? "yes" : "no", "yes");
        Set<String> there = new TreeSet<>();
        for (Path test : listed(TESTS)) {
            there.add(test.getFileName().toString().replace(".java", ""));
        }
        Set<String> named = new TreeSet<>();
        Matcher name = Pattern.compile("`(\\w+Test)`").matcher(page);
        while (name.find()) {
            named.add(name.group(1));
        }
        due("the tests that the page names", named.toString(), there.toString());
    }
}
