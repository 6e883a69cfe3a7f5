import java.io.IOException;
import java.io.UncheckedIOException;
import java.nio.file.Files;
import java.nio.file.Path;
import java.util.ArrayList;
import java.util.BitSet;
import java.util.LinkedHashMap;
import java.util.List;
import java.util.Map;
import java.util.regex.Matcher;
import java.util.regex.Pattern;

/** The words of ../shared/DOC.md by sections, and which of them the tests have quoted. */
final class Document {
    private static final Path FILE = Path.of("../shared/DOC.md");
    private static final Pattern HEADING = Pattern.compile("## (Promise \\d+|What it is|The public face|Terms|Not promised).*");
    /** It tells in short what the promises tell. */
    private static final String INTRODUCTION = "Rays through plane layers:";
    /** What begins a section inside of the terms. */
    private static final Map<String, String> TERMS = Map.of("1. INPUT.", "Terms 1", "2. PATHS.", "Terms 2",
            "3. UNDO.", "Terms 3", "EXCEPTIONS.", "EXCEPTIONS", "The constants:", "The constants");

    private final Map<String, StringBuilder> texts = new LinkedHashMap<>();
    private final Map<String, BitSet> quoted = new LinkedHashMap<>();

    Document() {
        String section = "";
        for (String line : lines()) {
            Matcher heading = HEADING.matcher(line);
            String words = line.replace("```text", "").replace("```java", "").replace("```", "");
            if (heading.matches()) {
                section = heading.group(1);
                words = "";
            }
            if (words.startsWith(INTRODUCTION)) {
                continue;
            }
            for (Map.Entry<String, String> term : TERMS.entrySet()) {
                if (words.startsWith(term.getKey())) {
                    section = term.getValue();
                    words = words.substring(term.getKey().length());
                }
            }
            // The signature that begins a promise is one of the public face.
            words = section.startsWith("Promise") ? words.replaceFirst("^`.*?`: ", "") : words;
            texts.computeIfAbsent(section, name -> new StringBuilder()).append(' ').append(words);
        }
        texts.keySet().retainAll(texts.keySet().stream().filter(Document::isHeldTo).toList());
        texts.replaceAll((name, text) -> new StringBuilder(plain(text.toString())));
        texts.keySet().forEach(name -> quoted.put(name, new BitSet()));
    }

    private static List<String> lines() {
        try {
            return Files.readAllLines(FILE);
        } catch (IOException failure) {
            throw new UncheckedIOException(failure);
        }
    }

    /** What is not promised is nothing to test. */
    private static boolean isHeldTo(String section) {
        return !section.isEmpty() && !section.equals("Not promised") && !section.equals("Terms");
    }

    private static String plain(String words) {
        return words.replace("`", "").replaceAll("\\s+", " ").trim();
    }

    /** Marks these words wherever they stand in the section; false if they stand nowhere. */
    boolean quote(String section, String words) {
        String text = text(section);
        String sought = plain(words);
        boolean found = false;
        for (int at = text.indexOf(sought); at >= 0; at = text.indexOf(sought, at + 1)) {
            quoted.get(section).set(at, at + sought.length());
            found = true;
        }
        return found;
    }

    String text(String section) {
        return texts.containsKey(section) ? texts.get(section).toString() : "";
    }

    /** What no test has quoted, each behind the name of its section. */
    List<String> unquoted() {
        List<String> left = new ArrayList<>();
        for (String section : texts.keySet()) {
            String text = text(section);
            BitSet marks = quoted.get(section);
            for (int from = marks.nextClearBit(0); from < text.length();) {
                int to = marks.nextSetBit(from) < 0 ? text.length() : marks.nextSetBit(from);
                String words = text.substring(from, to);
                if (words.matches(".*[A-Za-z0-9].*")) {
                    left.add(section + ": " + words.trim());
                }
                from = marks.nextClearBit(to);
            }
        }
        return left;
    }
}
