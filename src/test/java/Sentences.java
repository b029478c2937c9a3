import java.io.IOException;
import java.io.UncheckedIOException;
import java.nio.file.Files;
import java.nio.file.Path;
import java.util.ArrayList;
import java.util.LinkedHashMap;
import java.util.LinkedHashSet;
import java.util.List;
import java.util.Map;
import java.util.Set;
import java.util.regex.Matcher;
import java.util.regex.Pattern;

/**
 * The sentences of ../shared/DOC.md by their heads: the paragraphs of its 'Terms', each by its first word or words,
 * and 'Promise 1' to 'Promise 44' with a sentence for each number that is taken, each answer and each exception.
 */
final class Sentences {
    private static final Path FILE = Path.of("../shared/DOC.md");
    private static final Pattern HEADED = Pattern.compile("([A-Z][a-z]+(?: [a-z]+){0,2})\\. (.*)");
    private static final Pattern PROMISE = Pattern.compile("## (Promise \\d+): .*");

    private final Map<String, List<String>> pieces = new LinkedHashMap<>();
    private final Map<String, Set<String>> named = new LinkedHashMap<>();

    Sentences() {
        String head = "";
        for (String block : read().split("\n\\s*\n")) {
            String text = block.strip();
            Matcher promise = PROMISE.matcher(text);
            Matcher headed = HEADED.matcher(joined(text));
            if (text.startsWith("## ")) {
                head = promise.matches() ? promise.group(1) : text.substring(3);
            } else if (head.startsWith("Promise ")) {
                addPromise(head, text);
            } else if (!head.equals("What it is") && !pieces.containsKey("Exceptions") && headed.matches()) {
                head = headed.group(1);
                addTerms(head, headed.group(2));
            } else if (!text.startsWith("```") && !text.startsWith("# ")) {
                addTerms(head, joined(text));
            }
        }
    }

    private static String read() {
        try {
            return Files.readString(FILE);
        } catch (IOException e) {
            throw new UncheckedIOException(e);
        }
    }

    private static String joined(String text) {
        return text.replaceAll("\\s+", " ");
    }

    private void addTerms(String head, String text) {
        for (String piece : text.split("(?<=\\.) (?=[A-Z'])")) {
            add(head, piece);
        }
    }

    private void addPromise(String head, String text) {
        if (text.startsWith("- ")) {
            for (String line : text.substring(2).split("\n- ")) {
                add(head, joined(line));
            }
        } else {
            add(head, joined(text));
        }
    }

    private void add(String head, String piece) {
        pieces.computeIfAbsent(head, h -> new ArrayList<>()).add(piece);
    }

    /** Whether the document has this sentence, or this part of one, there. */
    boolean name(String head, String sentence) {
        named.computeIfAbsent(head, h -> new LinkedHashSet<>()).add(sentence);
        return String.join(" ", pieces.getOrDefault(head, List.of())).contains(sentence);
    }

    /** The sentences that nobody has named, in whole or in part; the signature of a promise needs no name. */
    List<String> left() {
        List<String> left = new ArrayList<>();
        for (Map.Entry<String, List<String>> entry : pieces.entrySet()) {
            Set<String> known = named.getOrDefault(entry.getKey(), Set.of());
            for (String piece : entry.getValue()) {
                if (known.stream().noneMatch(s -> piece.contains(s) || s.contains(piece))) {
                    left.add(entry.getKey() + ": " + piece);
                }
            }
        }
        return left;
    }
}
