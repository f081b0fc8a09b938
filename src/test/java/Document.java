import java.io.IOException;
import java.nio.charset.StandardCharsets;
import java.nio.file.Files;
import java.nio.file.Path;
import java.util.ArrayList;
import java.util.LinkedHashMap;
import java.util.List;
import java.util.Map;
import java.util.regex.Matcher;
import java.util.regex.Pattern;

/** ../shared/DOC.md by its parts, and which of its letters a test of EdgeTest has named. */
final class Document {
    /** How the document says that something has an edge. */
    private static final Pattern EDGE = Pattern.compile("\\d+ \\.\\. \\d+|\\d+ to \\d+|at most|at least|at first|or more"
            + "|of like ones|\\bNONE\\b|UNKNOWN|OUTSIDE|\\bNOT\\b|FULL( \\(\\d+\\))?|[Nn]o COAST|nothing|empty|\\bcut|gone"
            + "|stays|are lost|first in this order|is refused|is less|fewest|seventh|fifth|11th|again|left over"
            + "|alone");
    private static final Pattern PART = Pattern.compile("(?m)^(## What it is|(?=An object is used)|## The public face|## Terms|======== (\\d)|"
            + "Ahead of the calls|## (Promise \\d+):|## Not promised)");

    private final Map<String, String> parts = new LinkedHashMap<>();
    private final Map<String, boolean[]> named = new LinkedHashMap<>();

    Document() {
        String text = textOfFile();
        Matcher m = PART.matcher(text);
        String part = null;
        int began = 0;
        while (m.find()) {
            add(part, text.substring(began, m.start()));
            part = partOf(m);
            began = m.end();
        }
        add(part, text.substring(began));
    }

    /** Empty where there is no document beside the checkout: then nothing is held against it. */
    private static String textOfFile() {
        Path path = Path.of("../shared/DOC.md");
        try {
            return Files.isReadable(path) ? Files.readString(path, StandardCharsets.UTF_8) : "";
        } catch (IOException e) {
            return "";
        }
    }

    /** null: a part that says nothing about edges. */
    private static String partOf(Matcher m) {
        if (m.group(2) != null) {
            return "Section " + m.group(2);
        }
        if (m.group(3) != null) {
            return m.group(3);
        }
        return m.group(1).isEmpty() ? "What it is" : m.group(1).equals("## Terms") ? "Terms" : null;
    }

    private void add(String part, String text) {
        if (part != null) {
            parts.put(part, text);
            named.put(part, new boolean[text.length()]);
        }
    }

    boolean isThere() {
        return !parts.isEmpty();
    }

    /** Whether the part has this sentence; all places where it stands count as named. */
    boolean name(String part, String sentence) {
        String text = parts.getOrDefault(part, "");
        int at = text.indexOf(sentence);
        boolean found = at >= 0;
        while (at >= 0) {
            for (int i = at; i < at + sentence.length(); i++) {
                named.get(part)[i] = true;
            }
            at = text.indexOf(sentence, at + 1);
        }
        return found;
    }

    /** The edges that no test has named, each with its part and what stands around it. */
    List<String> unnamed() {
        List<String> all = new ArrayList<>();
        for (Map.Entry<String, String> part : parts.entrySet()) {
            Matcher m = EDGE.matcher(part.getValue());
            while (m.find()) {
                if (!isNamed(part.getKey(), m.start(), m.end())) {
                    int from = Math.max(0, m.start() - 30);
                    int to = Math.min(part.getValue().length(), m.end() + 30);
                    all.add(part.getKey() + ": .." + part.getValue().substring(from, to) + "..");
                }
            }
        }
        return all;
    }

    private boolean isNamed(String part, int from, int to) {
        for (int i = from; i < to; i++) {
            if (!named.get(part)[i]) {
                return false;
            }
        }
        return true;
    }
}
