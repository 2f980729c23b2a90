import java.io.IOException;
import java.nio.file.Files;
import java.nio.file.Path;
import java.util.ArrayList;
import java.util.LinkedHashMap;
import java.util.List;
import java.util.Map;
import java.util.regex.Matcher;
import java.util.regex.Pattern;

/** Tests that each stand beside the words of the document that they hold. */
abstract class Sentences extends Checks {
    private static final Path DOCUMENT = Path.of("../shared/DOC.md");

    /** What a part of "Terms" begins with. */
    private static final Pattern LABEL = Pattern.compile("^([A-Z][a-z]+\\.|The constants:|Ahead of the calls) ");

    /** The document's sections with their lines; "Terms" in parts, each named by its label. */
    private static final Map<String, List<String>> SECTIONS = sections();
    private static final Map<String, List<String>> HELD = new LinkedHashMap<>();

    private static String section = "";

    /** Says of which section the words are that follow. */
    static void in(String name) {
        section = name;
        HELD.put(name, new ArrayList<>());
        due("section " + name + " of the document", SECTIONS.containsKey(name) ? "there" : "not there", "there");
    }

    static void holds(String words, Runnable test) {
        int before = wrongSoFar();
        HELD.get(section).add(words);
        boolean stands = SECTIONS.getOrDefault(section, List.of()).stream().anyMatch(line -> line.contains(words));
        due("these words in the document", stands ? "there" : "not there", "there");
        due("the test", answer(() -> run(test)), "0");
        if (wrongSoFar() > before) {
            System.out.println("broken: " + section + ": " + words);
        }
    }

    private static long run(Runnable test) {
        test.run();
        return 0;
    }

    /** Ends the tests; a sentence of their sections of which no word has a test is a fault, too. */
    static void closeSentences(String test) {
        for (Map.Entry<String, List<String>> held : HELD.entrySet()) {
            for (String line : SECTIONS.getOrDefault(held.getKey(), List.of())) {
                dueWhole(held.getKey(), line, held.getValue());
            }
        }
        close(test);
    }

    private static void dueWhole(String name, String line, List<String> held) {
        int from = 0;
        while (from < line.length()) {
            int stop = line.indexOf(". ", from);
            int end = stop < 0 ? line.length() : stop + 2;
            String sentence = line.substring(from, end).trim();
            boolean isLabel = LABEL.matcher(sentence + " ").matches();
            boolean has = isLabel || held.stream().anyMatch(words -> words.contains(sentence) || sentence.contains(words));
            due(name + ": " + sentence, has ? "has a test" : "has no test", "has a test");
            from = end;
        }
    }

    private static Map<String, List<String>> sections() {
        Map<String, List<String>> sections = new LinkedHashMap<>();
        String name = "";
        for (String line : lines()) {
            Matcher label = LABEL.matcher(line);
            if (line.startsWith("#")) {
                name = line.replaceAll("^#+ |:.*", "");
            } else if (name.startsWith("Terms") && label.find()) {
                name = "Terms, " + label.group(1);
            }
            if (!line.isBlank() && !line.startsWith("#")) {
                sections.computeIfAbsent(name, key -> new ArrayList<>()).add(line);
            }
        }
        return sections;
    }

    private static List<String> lines() {
        try {
            return Files.readAllLines(DOCUMENT);
        } catch (IOException e) {
            throw new IllegalStateException("the document is not there: " + DOCUMENT.toAbsolutePath(), e);
        }
    }
}
