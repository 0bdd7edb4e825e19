import java.io.IOException;
import java.util.List;
import java.util.Map;
import java.util.TreeMap;
import java.util.TreeSet;

/** A boundary case: the promise, the document's own words for it, and what is tried there. */
final class Edge {
    static final int LEAST = Integer.MIN_VALUE;
    static final int MOST = Integer.MAX_VALUE;
    static final int[] NO_PEGS = {-1, 12, -12, 256, 65536, LEAST, MOST};
    static final int[] NO_PLACES = {-1, 91, -90, 256, 65536, LEAST, MOST};
    static final int[] NO_NUMBERS = {-1, 32768, -32767, 65536, LEAST, MOST};

    /** By promise, the words that a test quotes, each with how many tests do. */
    private static final Map<Integer, Map<String, Integer>> QUOTED = new TreeMap<>();
    private static int tests = 0;
    private static String current = "";

    private Edge() {
    }

    /** Makes the field that a test begins with. */
    interface Made {
        Pegfield make();
    }

    /** A call on a field. */
    interface Asked {
        Object of(Pegfield x);
    }

    /** A call on a field that is given one number. */
    interface AskedWith {
        Object of(Pegfield x, int number);
    }

    /** One test of its own. */
    static void test(int promise, String words, String what, Runnable body) {
        tests++;
        QUOTED.computeIfAbsent(promise, none -> new TreeMap<>()).merge(words, 1, Integer::sum);
        current = promise + " \"" + words + "\", " + what;
        Check.due(current, "ended", () -> {
            body.run();
            return "ended";
        });
    }

    static void due(Object want, Check.Call call) {
        Check.due(current, want, call);
    }

    /** A test that one call on a field has one answer. */
    static void answers(int promise, String words, String what, Object want, Made made, Asked asked) {
        test(promise, words, what, () -> {
            Pegfield x = made.make();
            due(want, () -> asked.of(x));
        });
    }

    /** A test that a call throws what the words say behind "Throws", and changes nothing. */
    static void refused(int promise, String words, String what, Made made, Asked asked) {
        test(promise, words, what, () -> {
            Pegfield x = made.make();
            String before = state(x);
            due(words.split("`")[1], () -> asked.of(x));
            due(before, () -> state(x));
            due(words.split("`")[1], () -> asked.of(x));
        });
    }

    /** The same for each of some numbers: on a new field, one with a ring, and one that has all it can have. */
    static void refusedNumbers(int promise, String words, String what, int[] bad, AskedWith asked) {
        for (int number : bad) {
            String size = what + (number < 0 ? " too small, " : " too large, ") + number;
            refused(promise, words, size + ", new", Fields::fresh, x -> asked.of(x, number));
            refusedWhenSet(promise, words, size, x -> asked.of(x, number));
        }
    }

    /** On a field with a ring, and on one that has all it can have. */
    static void refusedWhenSet(int promise, String words, String what, Asked asked) {
        refused(promise, words, what + ", joined", Fields::joined, asked);
        refused(promise, words, what + ", full", Fields::full, asked);
    }

    /** A test that a call that only tells something changes nothing, on a field with a ring and on a full one. */
    static void onlyTells(int promise, String words, Asked asked) {
        test(promise, words, "changes nothing", () -> {
            for (Made made : List.<Made>of(Fields::joined, Fields::full)) {
                Pegfield x = made.make();
                String before = state(x);
                String answer = Check.answer(() -> asked.of(x));
                due(before, () -> state(x));
                due(answer, () -> asked.of(x));
            }
        });
    }

    /** All that a field tells of its state: some 50 of its 512 calls. */
    static String state(Pegfield x) {
        StringBuilder text = new StringBuilder();
        for (int peg = 0; peg < 12; peg++) {
            text.append(x.isThere(peg) ? x.placeOf(peg) : -1).append(' ');
        }
        for (int place = 0; place <= 12; place++) {
            int here = place;
            text.append(Check.answer(() -> x.ringAt(here))).append(' ');
        }
        text.append(x.count()).append(' ').append(x.around()).append(' ').append(x.doubleArea());
        return text.append(' ').append(x.checksum()).toString();
    }

    /** Looks whether each test quotes the document, and each of its sentences with a boundary is quoted. */
    static void endWith(Document document) throws IOException {
        Check.same("promises of the document", Document.PROMISES, document.promises());
        for (int promise = 0; promise <= document.promises(); promise++) {
            Map<String, Integer> quoted = QUOTED.getOrDefault(promise, Map.of());
            for (String words : new TreeSet<>(quoted.keySet())) {
                Check.same(promise + " is said: " + words, true, document.says(promise, words));
            }
            for (String sentence : document.sentences(promise)) {
                boolean isTested = quoted.keySet().stream().anyMatch(sentence::contains);
                Check.same(promise + " has a test of its own: " + sentence, true,
                        isTested || !Document.namesBoundary(sentence));
            }
            Check.same(promise + " has tests", true, !quoted.isEmpty());
        }
        System.out.println("PegfieldEdges: " + tests + " boundary cases");
        Check.end("PegfieldEdges");
    }
}
