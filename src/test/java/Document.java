import java.io.IOException;
import java.nio.file.Files;
import java.nio.file.Path;
import java.util.ArrayList;
import java.util.LinkedHashMap;
import java.util.List;
import java.util.Map;
import java.util.regex.Matcher;
import java.util.regex.Pattern;

/**
 * The words of ../shared/DOC.md under each promise and each of "Terms", and which of them a test has named.
 * A test that names words that are not there fails, and so does a word that no test names.
 */
final class Document {
    private static final Map<String, String> TEXTS = new LinkedHashMap<>();
    private static final Map<String, boolean[]> NAMED = new LinkedHashMap<>();

    static {
        try {
            read(Files.readString(Path.of("../shared/DOC.md")));
        } catch (IOException e) {
            throw new IllegalStateException("../shared/DOC.md can't be read from here", e);
        }
    }

    private Document() { }

    private static void read(String doc) {
        Matcher promise = Pattern.compile("(?ms)^## (Promise \\d+): [^\n]*\n+`[^`]*`: (.*?)\n+(?=## )").matcher(doc);
        Matcher terms = Pattern.compile("(?ms)^## Terms\n+1\\. (.*?)\n2\\. (.*?)\n+(?=## )").matcher(doc);
        if (terms.find()) {
            add("Terms 1", terms.group(1));
            // The headings of the face say something only where they have brackets.
            add("Terms 2", terms.group(2).replaceAll("(?m)^Ahead of the calls .* the interface says: ---- [a-z, ]*", ""));
        }
        while (promise.find()) add(promise.group(1), promise.group(2));
    }

    private static void add(String place, String words) {
        String plain = words.replace("```text", "").replace("```", "");
        TEXTS.put(place, plain);
        NAMED.put(place, new boolean[plain.length()]);
    }

    /** False if these words do not stand there. */
    static boolean name(String place, String words) {
        String all = TEXTS.getOrDefault(place, "");
        boolean[] named = NAMED.get(place);
        int at = words.isEmpty() ? -1 : all.indexOf(words);
        boolean found = at >= 0;
        for (; at >= 0; at = all.indexOf(words, at + 1)) {
            for (int i = at; i < at + words.length(); i++) named[i] = true;
        }
        return found;
    }

    static int places() {
        return TEXTS.size();
    }

    /** What no test has named: a line for each run of words. */
    static List<String> unnamed() {
        List<String> left = new ArrayList<>();
        for (String place : TEXTS.keySet()) {
            String all = TEXTS.get(place);
            StringBuilder run = new StringBuilder();
            for (int i = 0; i <= all.length(); i++) {
                boolean free = i < all.length() && !NAMED.get(place)[i];
                if (free) run.append(all.charAt(i));
                if (!free && run.length() > 0) {
                    if (run.chars().anyMatch(Character::isLetterOrDigit)) left.add(place + ": " + run.toString().trim());
                    run.setLength(0);
                }
            }
        }
        return left;
    }
}
