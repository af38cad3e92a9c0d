import java.io.IOException;
import java.nio.file.Files;
import java.nio.file.Path;
import java.util.ArrayList;
import java.util.LinkedHashMap;
import java.util.List;
import java.util.Map;
import java.util.regex.Matcher;
import java.util.regex.Pattern;

/** The document by its headings, and which of its words the tests quote. */
final class Document {
    /** Words by which a sentence names a boundary case. */
    private static final Pattern EDGE = Pattern.compile("INVALID_ARGUMENT|NOT_POSSIBLE|LIMIT_REACHED|NOT_FOUND"
            + "|[0-9] to |\\b(at most|at least|at first|initially|fewer|empty|none|no|if|otherwise|below|above|less"
            + "|greater|least|last|alone|more|without|whatever|also|round|oldest|dropped|too|0 or 1|1 or 0)\\b");

    private final Map<String, String> texts = new LinkedHashMap<>();
    private final Map<String, boolean[]> quoted = new LinkedHashMap<>();

    Document() {
        StringBuilder text = new StringBuilder();
        String heading = "";
        for (String line : lines()) {
            if (line.startsWith("#")) {
                keep(heading, text.toString());
                text.setLength(0);
                heading = line.replaceFirst("^#+ *", "").replaceFirst(":.*", "");
            } else {
                text.append(line).append('\n');
            }
        }
        keep(heading, text.toString());
    }

    private static List<String> lines() {
        try {
            return Files.readAllLines(Path.of("..", "shared", "DOC.md"));
        } catch (IOException missing) {
            throw new IllegalStateException("../shared/DOC.md cannot be read", missing);
        }
    }

    private void keep(String heading, String text) {
        texts.put(heading, text);
        quoted.put(heading, new boolean[text.length()]);
    }

    /** Whether the words stand under the heading; they are marked wherever they stand there. */
    boolean quote(String heading, String words) {
        String text = texts.getOrDefault(heading, "");
        boolean found = false;
        for (int at = text.indexOf(words); at >= 0 && !words.isEmpty(); at = text.indexOf(words, at + 1)) {
            java.util.Arrays.fill(quoted.get(heading), at, at + words.length(), true);
            found = true;
        }
        return found;
    }

    /** What stands under the heading between the quotes and seems to name a boundary case. */
    List<String> unquotedEdges(String heading) {
        List<String> left = new ArrayList<>();
        String text = texts.getOrDefault(heading, "INVALID_ARGUMENT: there is no such heading");
        StringBuilder rest = new StringBuilder();
        for (int at = 0; at < text.length(); at++) {
            boolean open = !quoted.containsKey(heading) || !quoted.get(heading)[at];
            rest.append(open ? text.charAt(at) : '\n');
        }
        for (String piece : rest.toString().split("\n+")) {
            Matcher named = EDGE.matcher(piece);
            if (named.find() && !piece.startsWith("`int ")) {
                left.add(piece.trim());
            }
        }
        return left;
    }
}
