import java.util.ArrayList;
import java.util.HashSet;
import java.util.LinkedHashMap;
import java.util.List;
import java.util.Map;
import java.util.Set;
import java.util.function.LongSupplier;
import java.util.function.Supplier;

/**
 * Runs edges: tests of one boundary case each, by name, each under the sentence of the document that names the case.
 * What is said here is kept, so that it can be held against the document and be written as a list.
 */
abstract class Edges extends Bench {
    interface Call {
        long on(HourAgo x);
    }

    private static final StringBuilder list = new StringBuilder();
    private static final Map<String, StringBuilder> quotes = new LinkedHashMap<>();
    private static final Set<String> names = new HashSet<>();
    private static String chapter = "";
    private static int edgesOfSentence = 1;
    private static int answersOfEdge = 0;
    private static String edge = "";

    static void chapter(String title) {
        endSentence();
        chapter = title;
        quotes.put(title, new StringBuilder());
        list.append("\n## ").append(title).append('\n');
    }

    /** The sentence of the document, word for word, to which the edges behind it belong. */
    static void says(String sentence) {
        endSentence();
        edgesOfSentence = 0;
        StringBuilder quoted = quotes.get(chapter);
        quoted.append(quoted.length() == 0 ? "" : " ").append(sentence);
        list.append("\n> ").append(sentence).append("\n\n");
    }

    private static void endSentence() {
        due(chapter + ": whether its last sentence has an edge", edgesOfSentence > 0 ? 1 : 0, 1);
    }

    /** With several answers; they are told in the test alone. */
    static void edge(String name, Runnable body) {
        test(name, "", body);
    }

    static void edge(String name, long want, LongSupplier call) {
        test(name, ": " + answer(want), () -> is(want, call.getAsLong()));
    }

    /** Each of these calls is refused with that answer, and all of them together change nothing. */
    static void refusal(String name, long want, Supplier<HourAgo> maker, Call... calls) {
        test(name, ": " + answer(want) + ", and nothing is changed", () -> {
            HourAgo x = maker.get();
            for (Call call : calls) {
                is(want, call.on(x));
            }
            isAs(maker.get(), x);
        });
    }

    private static void test(String name, String told, Runnable body) {
        edge = name;
        edgesOfSentence++;
        answersOfEdge = 0;
        due("another edge by the name: " + name, names.add(name) ? 0 : 1, 0);
        list.append("- ").append(name).append(told).append('\n');
        try {
            body.run();
        } catch (RuntimeException | Error thrown) {
            due(chapter + ", " + name + ": threw " + thrown, 1, 0);
        }
        due(chapter + ", " + name + ": whether it holds any answer against one that is due", answersOfEdge > 0 ? 1 : 0,
            1);
    }

    private static String answer(long want) {
        if (want == NONE) {
            return "NONE";
        }
        return want == UNKNOWN ? "UNKNOWN" : want == OUTSIDE ? "OUTSIDE" : want == STATE ? "STATE"
            : want == FULL ? "FULL" : "" + want;
    }

    static void is(long want, long got) {
        answersOfEdge++;
        due(chapter + ", " + edge, got, want);
    }

    /** Whether both tell the same of all, now and when they go on from their IMAGES. Both are used up by it. */
    static void isAs(HourAgo want, HourAgo got) {
        List<Long> wanted = told(want);
        List<Long> told = told(got);
        is(wanted.size(), told.size());
        for (int i = 0; i < Math.min(wanted.size(), told.size()); i++) {
            is(wanted.get(i), told.get(i));
        }
    }

    private static List<Long> told(HourAgo x) {
        List<Long> all = new ArrayList<>();
        tell(all, x);
        all.add((long) x.restore());
        tell(all, x);
        return all;
    }

    private static void tell(List<Long> all, HourAgo x) {
        all.add(x.digest());
        for (int person = 0; person < x.count(2); person++) {
            for (int self = 0; self < x.about(person, 1); self++) {
                all.add(60L * x.self(person, self, 1) + x.self(person, self, 0));
            }
        }
    }

    /** All sentences and their edges by now, as a page. */
    static String list() {
        return list.toString();
    }

    static Map<String, StringBuilder> quotes() {
        endSentence();
        return quotes;
    }

    static int size() {
        return names.size();
    }
}
