import java.io.IOException;
import java.nio.file.Files;
import java.nio.file.Path;
import java.util.ArrayList;
import java.util.LinkedHashMap;
import java.util.List;
import java.util.Map;
import java.util.regex.Matcher;
import java.util.regex.Pattern;

/**
 * The sentences of the document that tests name. Each must stand where the test says that it stands and have a check of
 * its own, and no word of the terms and promises may be left without a test.
 */
final class Sentences {
    private static final Path DOCUMENT = Path.of("../shared/DOC.md");
    private static final Map<String, List<String>> NAMED = new LinkedHashMap<>();
    private static final List<String> BARE = new ArrayList<>();
    private static String open = "";
    private static int countAtBegin;

    private Sentences() {
    }

    static void ofPromise(int promise, String sentence) {
        begin("Promise " + promise, sentence);
    }

    static void ofTerms(String number, String sentence) {
        begin("Terms " + number, sentence);
    }

    static void ofConstant(String sentence) {
        begin("The constant", sentence);
    }

    private static void begin(String place, String sentence) {
        close();
        open = place + " (" + sentence + ")";
        countAtBegin = Check.count();
        NAMED.computeIfAbsent(place, key -> new ArrayList<>()).add(sentence);
        Check.part(open);
    }

    private static void close() {
        if (!open.isEmpty() && Check.count() == countAtBegin) {
            BARE.add(open);
        }
        open = "";
    }

    static void look() throws IOException {
        close();
        Check.part("the sentences of the document");
        for (String one : BARE) {
            Check.due("a check for " + one, false, true);
        }
        Map<String, String> sections = sections(Files.readString(DOCUMENT));
        Check.due("terms, the constant and promises", sections.size(), 70);
        for (String place : NAMED.keySet()) {
            Check.due("there is " + place, sections.containsKey(place), true);
        }
        for (Map.Entry<String, String> section : sections.entrySet()) {
            lookAt(section.getKey(), section.getValue());
        }
    }

    private static void lookAt(String place, String text) {
        boolean[] named = new boolean[text.length()];
        for (String sentence : NAMED.getOrDefault(place, List.of())) {
            int at = text.indexOf(sentence);
            Check.due(place + " says: " + sentence, at >= 0, true);
            for (; at >= 0; at = text.indexOf(sentence, at + 1)) {
                for (int i = at; i < at + sentence.length(); i++) {
                    named[i] = true;
                }
            }
        }
        StringBuilder left = new StringBuilder();
        for (int i = 0; i < text.length(); i++) {
            left.append(named[i] || !Character.isLetterOrDigit(text.charAt(i)) ? ' ' : text.charAt(i));
        }
        String without = left.toString().replaceAll(" +", " ").trim();
        Check.due(place + ", left without a test: " + without, without.isEmpty(), true);
    }

    private static Map<String, String> sections(String document) {
        Map<String, String> sections = new LinkedHashMap<>();
        String terms = between(document, "\n## Terms\n", "\nThe constants:");
        String[] numbers = {"I", "II", "III", "IV"};
        for (int i = 0; i < 4; i++) {
            String end = i < 3 ? "\n" + numbers[i + 1] + ". " : "";
            sections.put("Terms " + numbers[i], plain(between(terms, "\n" + numbers[i] + ". ", end)));
        }
        sections.put("The constant", plain(between(document, "\nThe constants:", "\n")));
        Matcher m = Pattern.compile("(?m)^## Promise (\\d+): \\w+[^\n]*\n\n`[^`]*`:([^#]*)").matcher(document);
        while (m.find()) {
            sections.put("Promise " + m.group(1), plain(m.group(2)));
        }
        return sections;
    }

    private static String between(String text, String begin, String end) {
        int from = text.indexOf(begin);
        if (from < 0) {
            return "";
        }
        from += begin.length();
        int to = end.isEmpty() ? text.length() : text.indexOf(end, from);
        return text.substring(from, to < 0 ? text.length() : to);
    }

    private static String plain(String text) {
        return text.replaceAll("```\\w*", " ").replaceAll("\\s+", " ").trim();
    }
}
