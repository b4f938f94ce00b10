import java.io.IOException;
import java.nio.file.Files;
import java.nio.file.Path;
import java.util.LinkedHashMap;
import java.util.Map;

/**
 * Runs all edges, and holds the sentences that they belong to against ../shared/DOC.md: none is left out, none altered.
 * EDGES.md is what "java HourAgoEdgesTest list" prints; run from the project's root.
 */
public final class HourAgoEdgesTest extends Edges {
    private static final Path DOCUMENT = Path.of("../shared/DOC.md");
    private static final Path LIST = Path.of("EDGES.md");
    private static final String HEAD = """
        # The edges

        Each sentence of `../shared/DOC.md` that promises something, and the boundary cases that it names: one test
        each, by that name, in `src/test/java/*Edges.java`, and its answer, where it is one number. This page is printed
        by the tests (see README.md) and held against them; the sentences are held against the document.
        """;

    public static void main(String[] args) throws IOException {
        TermEdges.all();
        TextEdges.all();
        PeopleEdges.all();
        TaskEdges.all();
        GlimpseEdges.all();
        WholeEdges.all();
        String page = HEAD + list();
        if (args.length > 0 && args[0].equals("list")) {
            System.out.print(page);
            return;
        }
        quotesAll(chaptersOf(Files.readString(DOCUMENT)));
        due("EDGES.md is as the tests print it", Files.readString(LIST).equals(page) ? 1 : 0, 1);
        System.out.println(size() + " edges");
        finish();
    }

    private static void quotesAll(Map<String, String> chapters) {
        due("chapters", quotes().size(), chapters.size());
        chapters.forEach((title, text) -> {
            String quoted = quotes().getOrDefault(title, new StringBuilder()).toString();
            if (!quoted.equals(text)) {
                due("the sentences of " + title + "\n" + quoted + "\nand in the document\n" + text + "\n", 0, 1);
            }
        });
    }

    /** What the document says ahead of its promises, its terms, and each promise: the text by its title. */
    private static Map<String, String> chaptersOf(String document) {
        Map<String, String> chapters = new LinkedHashMap<>();
        for (String part : document.split("\n## ")) {
            String title = part.split("\n")[0];
            String text = part.substring(title.length());
            if (title.equals("What it is")) {
                chapters.put(title, plain(text.substring(text.indexOf("======== 1") + 10)));
            } else if (title.equals("Terms")) {
                chapters.put(title, plain(text.substring(0, text.indexOf("Ahead of the calls"))));
            } else if (part.startsWith("Promise ")) {
                chapters.put(title, plain(text.substring(text.indexOf("`: ") + 3)));
            }
        }
        return chapters;
    }

    private static String plain(String text) {
        return text.replaceAll("```(text)?", " ").replaceAll("======== \\d", " ").replaceAll("\\s+", " ").strip();
    }
}
