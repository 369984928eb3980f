import java.io.IOException;
import java.nio.charset.StandardCharsets;
import java.nio.file.Files;
import java.nio.file.Path;
import java.util.ArrayList;
import java.util.LinkedHashMap;
import java.util.LinkedHashSet;
import java.util.List;
import java.util.Map;
import java.util.Set;
import java.util.concurrent.Callable;

/**
 * The sentences of the document's terms (part 0) and promises (parts 1 to 54). A test names the sentence that it is
 * made for; a sentence for which none is made is told at the end.
 */
final class Sentences {
    private static final Path DOCUMENT = Path.of("../shared/DOC.md");
    /** What binds no call, or is there to order the document. */
    private static final List<String> FREE = List.of("All numbers are integers, but for a share", "Ahead of the calls",
            "The text, tokens", "Undo, the snapshot");

    private final Checks checks = new Checks();
    private final Map<Integer, Set<String>> untold = new LinkedHashMap<>();
    private final Map<Integer, List<String>> all = new LinkedHashMap<>();
    private String now = "";

    Sentences() throws IOException {
        String document = Files.readString(DOCUMENT, StandardCharsets.UTF_8);
        String life = document.substring(document.indexOf("An object is used"), document.indexOf("## The public face"));
        String terms = document.substring(document.indexOf("## Terms\n"), document.indexOf("## Promise 1:"));
        read(0, life + terms);
        for (int promise = 1; promise <= 54; promise++) {
            String next = promise < 54 ? "## Promise " + (promise + 1) + ":" : "## Not promised";
            read(promise, document.substring(document.indexOf("## Promise " + promise + ":"), document.indexOf(next)));
        }
    }

    private void read(int part, String words) {
        all.put(part, new ArrayList<>());
        for (String line : words.split("\n")) {
            if (line.isBlank() || line.startsWith("#") || line.startsWith("```")) {
                continue;
            }
            // The face of a call is FaceTest's; here stands what it does.
            String told = line.replaceFirst("^`[^`]*`: ", "");
            for (String sentence : told.trim().split("(?<=\\.) (?=[A-Z])")) {
                if (FREE.stream().noneMatch(sentence::startsWith)) {
                    all.get(part).add(sentence);
                }
            }
        }
        untold.put(part, new LinkedHashSet<>(all.get(part)));
    }

    /** What comes next tests the sentences of this part in which these words stand. */
    void of(int part, String... words) {
        now = (part == 0 ? "terms" : "promise " + part) + ": " + String.join(" / ", words);
        for (String some : words) {
            List<String> with = all.get(part).stream().filter(sentence -> sentence.contains(some)).toList();
            checks.same("sentences of part " + part + " with: " + some, 1, with.size());
            untold.get(part).removeAll(with);
        }
    }

    void due(String what, Object due, Callable<?> call) {
        checks.same(now + ": " + what, due, Checks.answer(call));
    }

    void end() {
        for (Map.Entry<Integer, Set<String>> part : untold.entrySet()) {
            for (String sentence : part.getValue()) {
                checks.same("part " + part.getKey() + ": " + sentence, "a test", "none");
            }
        }
        checks.end();
    }
}
