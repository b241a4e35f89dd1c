import java.io.IOException;
import java.nio.file.Files;
import java.nio.file.Path;
import java.util.ArrayList;
import java.util.Arrays;
import java.util.LinkedHashMap;
import java.util.List;
import java.util.Map;
import java.util.regex.Matcher;
import java.util.regex.Pattern;
import java.util.stream.Stream;

/**
 * That every sentence of the document has a test by sentences, and that each such test names a sentence that is there.
 * With the argument "list" it tells each part's sentences with their tests.
 */
public final class IndexTests {
    private static final Path DOCUMENT = Path.of("..", "shared", "DOC.md");
    private static final Path TESTS = Path.of("src", "test", "java");
    private static final Pattern NAMED = Pattern.compile(
        "static void (\\w+)\\(\\) \\{\\s*sentence\\(\"([^\"]*)\", \"([^\"]*)\"\\);");
    private static final Pattern TEST = Pattern.compile("static void \\w+\\(\\) \\{");
    private static int wrong = 0;

    private record Named(String test, String part, String words) {
    }

    public static void main(String[] args) throws IOException {
        if (!Files.isReadable(DOCUMENT)) {
            System.out.println("no " + DOCUMENT + " to look into");
            return;
        }
        Map<String, String> parts = partsOfTheDocument();
        List<Named> named = namedByTests();
        for (Named one : named) {
            if (!parts.getOrDefault(one.part, "").contains(one.words)) {
                wrong(one.test + " names what " + one.part + " does not say: " + one.words);
            }
        }
        parts.forEach((part, text) -> wholeHasTests(part, text, named));
        if (args.length > 0 && args[0].equals("list")) {
            list(parts, named);
        }
        System.out.println(wrong == 0 ? "every sentence has a test" : wrong + " sentences are not as named by tests");
        if (wrong != 0) {
            System.exit(1);
        }
    }

    private static void wrong(String what) {
        wrong++;
        System.out.println(what);
    }

    /** The parts that tests name, each as one line without what is no sentence (headings, what a call looks like). */
    private static Map<String, String> partsOfTheDocument() throws IOException {
        String all = Files.readString(DOCUMENT).replaceAll("\\s+", " ");
        Map<String, String> parts = new LinkedHashMap<>();
        parts.put("What it is", between(all, "spangles lie; slips by chance, winters by draws, pillows kept. ", "what later calls answer"));
        parts.put("The public face", between(all, "public final class BobbinTalk { ", "public BobbinTalk();"));
        for (int i = 1; i <= 4; i++) {
            String part = between(all, "======== " + i + " ", i < 4 ? "======== " + (i + 1) + " " : "BAD: a number is none");
            parts.put("Terms " + i, part.replace("```text ", "").replace("``` ", "").replace("```", ""));
        }
        parts.put("Answers", between(all, "2 at most. ``` ", "Ahead of the calls `write`"));
        for (int i = 1; i <= 33; i++) {
            String part = between(all, "## Promise " + i + ": ", i < 33 ? "## Promise " + (i + 1) + ": " : "## Not promised");
            parts.put("Promise " + i, part.substring(part.indexOf("`: ") + 3));
        }
        return parts;
    }

    private static String between(String all, String from, String to) {
        int start = all.indexOf(from);
        int end = start < 0 ? -1 : all.indexOf(to, start + from.length());
        if (end < 0) {
            wrong("the document has nothing between '" + from + "' and '" + to + "'");
            return "`: ";
        }
        return all.substring(start + from.length(), end).trim();
    }

    private static List<Named> namedByTests() throws IOException {
        List<Named> named = new ArrayList<>();
        try (Stream<Path> files = Files.list(TESTS)) {
            for (Path file : files.filter(path -> path.toString().endsWith("Sentences.java")).sorted().toList()) {
                String source = Files.readString(file);
                int many = 0;
                for (Matcher m = NAMED.matcher(source); m.find();) {
                    many++;
                    named.add(new Named(file.getFileName().toString().replace(".java", ".") + m.group(1), m.group(2), m.group(3)));
                }
                if (many != TEST.matcher(source).results().count()) {
                    wrong(file + " has tests that name no sentence");
                }
            }
        }
        return named;
    }

    private static void wholeHasTests(String part, String text, List<Named> named) {
        boolean[] has = new boolean[text.length()];
        for (Named one : named) {
            if (one.part.equals(part) && text.contains(one.words)) {
                int from = text.indexOf(one.words);
                Arrays.fill(has, from, from + one.words.length(), true);
            }
        }
        StringBuilder without = new StringBuilder();
        for (int i = 0; i < text.length(); i++) {
            without.append(has[i] ? '|' : text.charAt(i));
        }
        for (String rest : without.toString().split("\\|+")) {
            if (rest.matches(".*[A-Za-z0-9].*")) {
                wrong(part + " has no test for: " + rest.trim());
            }
        }
    }

    private static void list(Map<String, String> parts, List<Named> named) {
        for (String part : parts.keySet()) {
            Map<String, List<String>> tests = new LinkedHashMap<>();
            named.stream().filter(one -> one.part.equals(part))
                .sorted((a, b) -> Integer.compare(parts.get(part).indexOf(a.words), parts.get(part).indexOf(b.words)))
                .forEach(one -> tests.computeIfAbsent(one.words, words -> new ArrayList<>()).add(one.test));
            System.out.println(part);
            tests.forEach((words, names) -> System.out.println("    " + words + "\n        " + String.join(", ", names)));
        }
    }
}
