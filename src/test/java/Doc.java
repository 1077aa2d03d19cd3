import java.io.IOException;
import java.nio.file.Files;
import java.nio.file.Path;
import java.util.ArrayList;
import java.util.LinkedHashMap;
import java.util.List;
import java.util.Map;

/**
 * Ties the tests to the document: each test names the sentence that it asks for, and each sentence
 * of the document must have been named.
 */
final class Doc {
    private static final Map<String, List<String>> TESTED = new LinkedHashMap<>();
    private static String section = "";

    private Doc() {
    }

    static void section(String name) {
        section = name;
        TESTED.putIfAbsent(name, new ArrayList<>());
    }

    static void test(String sentence, Runnable test) {
        TESTED.get(section).add(sentence);
        int before = Check.asked();
        Check.about(section + ", \"" + sentence + "\": ");
        test.run();
        Check.same("the number of checks is 0:", Check.asked() == before ? 1 : 0, 0);
        Check.about("");
    }

    /** Each sentence of these sections has a test, and each test a sentence. */
    static void compare(Path document) throws IOException {
        Map<String, List<String>> written = sentences(Files.readString(document));
        for (Map.Entry<String, List<String>> e : written.entrySet()) {
            List<String> tested = TESTED.getOrDefault(e.getKey(), List.of());
            for (String sentence : e.getValue()) {
                Check.same(e.getKey() + ", tests of \"" + sentence + "\":", tested.contains(sentence) ? 1 : 0, 1);
            }
        }
        for (Map.Entry<String, List<String>> e : TESTED.entrySet()) {
            List<String> due = written.getOrDefault(e.getKey(), List.of());
            for (String sentence : e.getValue()) {
                Check.same(e.getKey() + " says \"" + sentence + "\":", due.contains(sentence) ? 1 : 0, 1);
            }
        }
    }

    private static Map<String, List<String>> sentences(String document) {
        Map<String, List<String>> found = new LinkedHashMap<>();
        String name = "";
        for (String line : document.split("\n")) {
            if (line.startsWith("## ")) {
                name = line.substring(3).replaceAll(":.*", "");
            } else if (promises(name, line)) {
                String said = line.replaceFirst("^- ", "").replaceFirst("^`[^`]*\\([^`]*`: ", "");
                for (String sentence : said.split("(?<=\\.|\\.\\))\\s+(?=[A-Z(])")) {
                    found.computeIfAbsent(name, n -> new ArrayList<>()).add(sentence);
                }
            }
        }
        return found;
    }

    private static boolean promises(String name, String line) {
        if (line.isBlank() || line.startsWith("#") || line.startsWith("Ahead of the calls")) {
            return false;
        }
        return name.equals("Terms") || name.startsWith("Promise ")
                || name.equals("What it is") && line.startsWith("An object");
    }
}
