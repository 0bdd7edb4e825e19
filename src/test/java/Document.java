import java.io.IOException;
import java.nio.file.Files;
import java.nio.file.Path;
import java.util.ArrayList;
import java.util.List;
import java.util.regex.Matcher;
import java.util.regex.Pattern;

/** The sentences of ../shared/DOC.md, by promise; those ahead of the promises are told as promise 0. */
final class Document {
    static final int PROMISES = 31;

    /** What a sentence says that names a boundary case, or what is due there. */
    private static final Pattern BOUNDARY = Pattern.compile("\\b(if|empty|at most|at first|none|room|twelve"
            + "|several|Several|strictly|goes round|last one|lowest|greatest|nothing|Nothing|bit by bit"
            + "|0 to|once|not widened|without)\\b");

    private final List<List<String>> sentences = new ArrayList<>();

    Document() throws IOException {
        String text = Files.readString(Path.of("../shared/DOC.md"));
        Matcher heads = Pattern.compile("(?m)^## Promise (\\d+): .*$").matcher(text);
        int start = text.indexOf("## Terms");
        while (heads.find()) {
            sentences.add(sentencesOf(text.substring(start, heads.start())));
            start = heads.end();
        }
        sentences.add(sentencesOf(text.substring(start, text.indexOf("## Not promised"))));
    }

    private static List<String> sentencesOf(String text) {
        List<String> all = new ArrayList<>();
        for (String paragraph : text.split("\n\\s*\n|\n(?=- )")) {
            // A call's line tells its types first; what it does stands behind them.
            String words = paragraph.strip().replaceAll("\\s+", " ").replaceAll("^`[^`]*`: ", "");
            for (String sentence : words.split("(?<=[.:;]) ")) {
                all.add(sentence);
            }
        }
        return all;
    }

    int promises() {
        return sentences.size() - 1;
    }

    List<String> sentences(int promise) {
        return sentences.get(promise);
    }

    boolean says(int promise, String words) {
        return sentences.get(promise).stream().anyMatch(sentence -> sentence.contains(words));
    }

    static boolean namesBoundary(String sentence) {
        return BOUNDARY.matcher(sentence).find();
    }
}
