import java.io.IOException;
import java.nio.file.Files;
import java.nio.file.Path;
import java.util.ArrayList;
import java.util.LinkedHashMap;
import java.util.List;
import java.util.Map;
import java.util.regex.Matcher;
import java.util.regex.Pattern;
import java.util.stream.Collectors;
import java.util.stream.Stream;

/**
 * The tests name the document's sentences word by word, and leave none out: every one, from the first line to the
 * last, and every line of the public face stands in a Check.sentence of some test, once. Called with the project's root.
 */
public final class SentencesTest {
    private static final Pattern CONSTANT = Pattern.compile("static final String (\\w+) = \"([^\"]*)\";");
    private static final Pattern NAMED = Pattern.compile("Check\\.sentence\\((\\w+|\"[^\"]*\"),\\s*((?:\"[^\"]*\"\\s*\\+?\\s*)+)\\);");
    private static final Pattern CALL = Pattern.compile("Check\\.sentence\\(");

    private final Map<String, String> pieces = new LinkedHashMap<>();
    private final Map<String, boolean[]> named = new LinkedHashMap<>();

    public static void main(String[] args) throws IOException {
        Path root = Path.of(args.length > 0 ? args[0] : ".");
        Path document = root.resolve("../shared/DOC.md");
        if (!Files.exists(document)) {
            System.out.println("there is no document at " + document + ": its sentences can't be looked up");
            return;
        }
        new SentencesTest().compare(Files.readAllLines(document), tests(root.resolve("src/test/java")));
        Check.end();
    }

    private static List<Path> tests(Path directory) throws IOException {
        try (Stream<Path> all = Files.list(directory)) {
            return all.filter(p -> p.toString().endsWith("Test.java") && !p.endsWith("SentencesTest.java"))
                    .sorted().collect(Collectors.toList());
        }
    }

    private void compare(List<String> lines, List<Path> tests) throws IOException {
        split(lines);
        for (Path test : tests) {
            read(test);
        }
        for (Map.Entry<String, String> piece : pieces.entrySet()) {
            String name = piece.getKey().substring(0, Math.min(20, piece.getKey().length()));
            Check.dueText("what no test names of " + name, unnamed(piece.getValue(), named.get(piece.getKey())), "");
        }
    }

    /** A piece is a line of the document; one of a promise is known by the promise, without its signature. */
    private void split(List<String> lines) {
        String section = "";
        for (String line : lines) {
            String text = line.strip();
            if (text.startsWith("## ")) {
                section = text.substring(3);
            } else if (!text.isEmpty() && !text.startsWith("```")) {
                if (section.startsWith("Promise")) {
                    keep(section.substring(0, section.indexOf(':')), text.substring(text.indexOf("`: ") + 3));
                } else if (!section.isEmpty() && !text.equals("}")) {
                    keep(text, text);
                }
            }
        }
        Check.due("the document has its pieces", pieces.size() > 50, true);
    }

    private void keep(String name, String text) {
        pieces.put(name, text);
        named.put(name, new boolean[text.length()]);
    }

    private void read(Path test) throws IOException {
        String source = Files.readString(test);
        Map<String, String> constants = new LinkedHashMap<>();
        Matcher constant = CONSTANT.matcher(source);
        while (constant.find()) {
            constants.put(constant.group(1), constant.group(2));
        }
        Matcher sentence = NAMED.matcher(source);
        int found = 0;
        while (sentence.find()) {
            found++;
            String piece = sentence.group(1);
            String name = piece.startsWith("\"") ? piece.substring(1, piece.length() - 1) : constants.getOrDefault(piece, piece);
            mark(test.getFileName() + ": " + name, name, literal(sentence.group(2)));
        }
        Check.due("sentences read in " + test.getFileName(), found, (int) CALL.matcher(source).results().count());
    }

    /** The text of string literals that are joined by +. */
    private static String literal(String joined) {
        List<String> parts = new ArrayList<>();
        Matcher part = Pattern.compile("\"([^\"]*)\"").matcher(joined);
        while (part.find()) {
            parts.add(part.group(1));
        }
        return String.join("", parts);
    }

    private void mark(String where, String name, String words) {
        List<String> fitting = pieces.keySet().stream()
                .filter(key -> key.equals(name) || key.startsWith(name) && !key.startsWith("Promise"))
                .collect(Collectors.toList());
        Check.due(where + ": pieces that begin so", fitting.size(), 1);
        if (fitting.size() != 1) {
            return;
        }
        String text = pieces.get(fitting.get(0));
        int at = text.indexOf(words);
        Check.due(where + " has the words '" + words + "' once", at >= 0 && text.indexOf(words, at + 1) < 0, true);
        for (int k = 0; at >= 0 && k < words.length(); k++) {
            Check.due(where + ": '" + words + "' was not named before", named.get(fitting.get(0))[at + k], false);
            named.get(fitting.get(0))[at + k] = true;
        }
    }

    private static String unnamed(String text, boolean[] seen) {
        StringBuilder left = new StringBuilder();
        for (int k = 0; k < text.length(); k++) {
            if (!seen[k]) {
                left.append(text.charAt(k));
            }
        }
        return left.toString().strip();
    }
}
