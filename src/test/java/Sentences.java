import java.io.IOException;
import java.nio.charset.StandardCharsets;
import java.nio.file.Files;
import java.nio.file.Path;
import java.util.ArrayList;
import java.util.List;
import java.util.Map;
import java.util.TreeMap;
import java.util.regex.Matcher;
import java.util.regex.Pattern;

/** The document's own words: tests quote them, and what no test has quoted is told. */
final class Sentences {
    private static final Pattern USE = Pattern.compile("An object is used.*?(?=## )");
    private static final Pattern PROMISE = Pattern.compile("## Promise (\\d+): [^`]*`[^`]*`: (.*?)(?=## |$)");
    private static final Pattern TERM = Pattern.compile("==== (\\d+)\\. (.*?)(?===== |$)");

    private final Map<String, String> texts = new TreeMap<>();
    private final Map<String, boolean[]> quoted = new TreeMap<>();

    Sentences(Path document) throws IOException {
        String all = Files.readString(document, StandardCharsets.UTF_8).replaceAll("```\\w*", " ").replaceAll("\\s+", " ");
        int promises = all.indexOf("## Promise 1:");
        int terms = all.indexOf("==== 1.");
        Matcher use = USE.matcher(all);
        if (use.find()) {
            keep("Use", use.group());
        }
        keep(TERM.matcher(all.substring(terms, promises)), "Term ");
        keep(PROMISE.matcher(all.substring(promises)), "Promise ");
    }

    private void keep(Matcher sections, String kind) {
        while (sections.find()) {
            keep(kind + sections.group(1), sections.group(2));
        }
    }

    private void keep(String section, String text) {
        texts.put(section, text.trim());
        quoted.put(section, new boolean[text.trim().length()]);
    }

    int sections() {
        return texts.size();
    }

    /** Whether a section has these words; marks them as quoted. */
    boolean quote(String section, String words) {
        String text = texts.getOrDefault(section, "");
        int at = text.indexOf(words);
        if (at < 0 || words.isEmpty()) {
            return false;
        }
        for (int i = at; i >= 0; i = text.indexOf(words, i + 1)) {
            java.util.Arrays.fill(quoted.get(section), i, i + words.length(), true);
        }
        return true;
    }

    /** Stretches of words that no test has quoted. */
    List<String> unquoted() {
        List<String> stretches = new ArrayList<>();
        for (String section : texts.keySet()) {
            StringBuilder left = new StringBuilder();
            for (int i = 0; i < texts.get(section).length(); i++) {
                left.append(quoted.get(section)[i] ? '\n' : texts.get(section).charAt(i));
            }
            for (String stretch : left.toString().split("\n+")) {
                if (stretch.matches(".*[\\w=|&!?<>].*")) {
                    stretches.add(section + ": " + stretch.trim());
                }
            }
        }
        return stretches;
    }
}
