import java.io.IOException;
import java.nio.charset.StandardCharsets;
import java.nio.file.Files;
import java.nio.file.Path;
import java.util.ArrayList;
import java.util.LinkedHashMap;
import java.util.List;
import java.util.Map;
import java.util.regex.Matcher;
import java.util.regex.Pattern;

/** The document's sections, and which of their words some test has quoted. */
final class Doc {
    private final Map<String, String> sections = new LinkedHashMap<>();
    private final Map<String, boolean[]> quoted = new LinkedHashMap<>();

    Doc() {
        String shared = System.getenv("SHARED");
        Path path = Path.of(shared == null || shared.isEmpty() ? "../shared" : shared, "DOC.md");
        try {
            read(Files.readString(path, StandardCharsets.UTF_8));
        } catch (IOException e) {
            System.out.println(path + " can't be read: the sentences are not looked up there");
        }
    }

    private void read(String text) {
        keep("Calls", "An object" + between(text, "An object", "\n"));
        String terms = between(text, "## Terms", "## Promise 1:").replace("```text", "").replace("```", "");
        keep("Constants", "The constants" + between(terms + "\n", "The constants", "\n"));
        String[] numbers = {"I", "II", "III", "IV", "V", "VI", "VII"};
        for (int i = 0; i < numbers.length; i++) {
            String from = i == 0 ? "" : "==== " + numbers[i] + ".";
            String to = i == 6 ? "The constants" : "==== " + numbers[i + 1] + ".";
            keep("Term " + numbers[i], between(terms, from, to));
        }
        Matcher promise = Pattern.compile("(?s)## Promise (\\d+): [^\n]*\n(.*?)(?=\n## )").matcher(text);
        while (promise.find()) {
            // The signature stands under the public face, too, where RulesTest holds the class against it.
            keep("Promise " + promise.group(1), promise.group(2).replaceFirst("`[^`]*`: ", ""));
        }
    }

    private static String between(String text, String from, String to) {
        int start = text.indexOf(from) + from.length();
        int end = text.indexOf(to, start);
        return text.substring(start, end < 0 ? text.length() : end);
    }

    private void keep(String name, String text) {
        String plain = text.replaceAll("\\s+", " ").trim();
        sections.put(name, plain);
        quoted.put(name, new boolean[plain.length()]);
    }

    /** Marks a sentence as quoted: why it can't be, or nothing. */
    String quote(String section, String sentence) {
        if (sections.isEmpty()) {
            return "";
        }
        String text = sections.get(section);
        if (text == null) {
            return "the document has no such section";
        }
        int at = text.indexOf(sentence);
        if (at < 0 || text.indexOf(sentence, at + 1) >= 0) {
            return "stands there " + (at < 0 ? "not at all" : "more than once");
        }
        for (int i = at; i < at + sentence.length(); i++) {
            quoted.get(section)[i] = true;
        }
        return "";
    }

    /** The words that no test has quoted. */
    List<String> unquoted() {
        List<String> all = new ArrayList<>();
        for (Map.Entry<String, String> section : sections.entrySet()) {
            StringBuilder rest = new StringBuilder();
            boolean[] held = quoted.get(section.getKey());
            for (int i = 0; i < held.length; i++) {
                rest.append(held[i] ? '~' : section.getValue().charAt(i));
            }
            for (String words : rest.toString().split("~+")) {
                if (words.matches(".*[A-Za-z0-9].*")) {
                    all.add(section.getKey() + ": no test quotes \"" + words.trim() + "\"");
                }
            }
        }
        return all;
    }
}
