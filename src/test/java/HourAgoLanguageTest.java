import java.io.IOException;
import java.lang.reflect.Field;
import java.lang.reflect.Method;
import java.lang.reflect.Modifier;
import java.nio.file.Files;
import java.nio.file.Path;
import java.util.ArrayList;
import java.util.Arrays;
import java.util.List;
import java.util.TreeSet;
import java.util.regex.Matcher;
import java.util.regex.Pattern;
import java.util.stream.Collectors;

/** Those rules of ../shared/LANGUAGE.md that can be read off the class and its text; run from the project's root. */
public final class HourAgoLanguageTest {
    private static final Path SOURCE = Path.of("src/main/java/HourAgo.java");
    private static final Path DOCUMENT = Path.of("../shared/DOC.md");
    private static final int MOST_CLASSES = 12, MOST_FIELDS = 20, MOST_PARAMETERS = 7, MOST_LINES = 60;

    private static int wrong = 0;

    public static void main(String[] args) throws IOException {
        String text = Files.readString(SOURCE);
        String code = withoutComments(text);
        due("only signs 1 to 127", text.chars().allMatch(sign -> sign >= 1 && sign <= 127));
        facesTheDocument();
        showsNothingElse();
        for (Class<?> each : allClasses()) {
            keepsItsSize(each);
        }
        usesNo(code, "package|import|throw|throws|try|catch|finally|synchronized|assert|instanceof|native|volatile");
        usesNo(code, "equals|hashCode|toString|System|Thread|Random|Math|Exception|Error|Object|yield");
        due("no lambda, no method reference", !code.contains("->") && !code.contains("::"));
        due("nothing is made but in fields and constructors", placesOfNew(code).isEmpty());
        due("short methods", longestMethod(code) <= MOST_LINES);
        System.out.println(wrong == 0 ? "the rules are kept" : wrong + " rules are not kept");
        if (wrong != 0) {
            System.exit(1);
        }
    }

    private static void facesTheDocument() throws IOException {
        String document = Files.readString(DOCUMENT);
        TreeSet<String> wanted = new TreeSet<>();
        Matcher line = Pattern.compile("public (int|long) (\\w+)\\((.*?)\\);").matcher(document);
        while (line.find()) {
            wanted.add(line.group(1) + " " + line.group(2) + "(" + line.group(3).replaceAll(" \\w+(,|$)", "$1") + ")");
        }
        TreeSet<String> there = new TreeSet<>();
        for (Method method : HourAgo.class.getDeclaredMethods()) {
            if (Modifier.isPublic(method.getModifiers())) {
                String types = Arrays.stream(method.getParameterTypes()).map(Class::getName)
                    .collect(Collectors.joining(", "));
                there.add(method.getReturnType() + " " + method.getName() + "(" + types + ")");
            }
        }
        due("the document's 27 methods: " + wanted + " and here " + there, wanted.size() == 27 && wanted.equals(there));
        TreeSet<String> constants = new TreeSet<>();
        for (Field field : HourAgo.class.getFields()) {
            constants.add(field.getName());
        }
        due("the constants", constants.equals(new TreeSet<>(List.of("NONE", "UNKNOWN", "OUTSIDE", "STATE", "FULL"))));
        due("the constructor", HourAgo.class.getConstructors().length == 1
            && HourAgo.class.getDeclaredConstructors().length == 1
            && HourAgo.class.getConstructors()[0].getParameterCount() == 0);
    }

    private static void showsNothingElse() {
        TreeSet<String> shown = new TreeSet<>();
        for (Method method : HourAgo.class.getDeclaredMethods()) {
            if (Modifier.isPublic(method.getModifiers())) {
                shown.add(method.getName());
            }
        }
        for (Method method : HourAgo.class.getDeclaredMethods()) {
            int modifiers = method.getModifiers();
            boolean isPrivate = Modifier.isPrivate(modifiers);
            due(method + " is public or private", isPrivate || Modifier.isPublic(modifiers));
            due(method + " has a name of its own", !isPrivate || !shown.contains(method.getName()));
        }
        for (Field field : HourAgo.class.getDeclaredFields()) {
            int modifiers = field.getModifiers();
            boolean isConstant = Modifier.isPublic(modifiers) && Modifier.isStatic(modifiers);
            due(field + " is hidden", Modifier.isPrivate(modifiers) || isConstant);
        }
        for (Class<?> inside : HourAgo.class.getDeclaredClasses()) {
            int modifiers = inside.getModifiers();
            due(inside + " is hidden", !Modifier.isPublic(modifiers) && !Modifier.isProtected(modifiers));
            due(inside + " is static", Modifier.isStatic(modifiers));
        }
        due("public and final", Modifier.isPublic(HourAgo.class.getModifiers())
            && Modifier.isFinal(HourAgo.class.getModifiers()));
        due("few classes", allClasses().size() <= MOST_CLASSES);
    }

    private static List<Class<?>> allClasses() {
        List<Class<?>> all = new ArrayList<>(List.of(HourAgo.class.getDeclaredClasses()));
        all.add(HourAgo.class);
        return all;
    }

    private static void keepsItsSize(Class<?> each) {
        int fields = 0;
        for (Field field : each.getDeclaredFields()) {
            boolean isStatic = Modifier.isStatic(field.getModifiers());
            fields += isStatic ? 0 : 1;
            due(field + " is final, as it is static", !isStatic || Modifier.isFinal(field.getModifiers()));
        }
        due(each + " has few fields", fields <= MOST_FIELDS);
        for (Method method : each.getDeclaredMethods()) {
            due(method + " takes few parameters", method.getParameterCount() <= MOST_PARAMETERS);
        }
    }

    private static void usesNo(String code, String words) {
        Matcher word = Pattern.compile("\\b(" + words + ")\\b").matcher(code);
        while (word.find()) {
            due("no " + word.group(), false);
        }
    }

    /** Lines that make something while calls run: all calls of a run share one room, so none does. */
    private static List<String> placesOfNew(String code) {
        List<String> places = new ArrayList<>();
        for (String line : code.split("\n")) {
            boolean isField = line.matches("\\s*private final .* = new .*;");
            boolean isElement = line.strip().equals("people[i] = new Person();");
            if (line.contains("new ") && !isField && !isElement) {
                places.add(line);
            }
        }
        return places;
    }

    private static int longestMethod(String code) {
        int longest = 0;
        int begun = 0;
        String[] lines = code.split("\n");
        for (int i = 0; i < lines.length; i++) {
            if (lines[i].matches(" {4}( {4})?\\S.*\\) \\{")) {
                begun = i;
            } else if (lines[i].matches(" {4}( {4})?}") && begun > 0) {
                longest = Math.max(longest, i - begun + 1);
                begun = 0;
            }
        }
        return longest;
    }

    private static String withoutComments(String text) {
        return text.replaceAll("(?s)/\\*.*?\\*/", "").replaceAll("//[^\n]*", "");
    }

    private static void due(String rule, boolean kept) {
        if (!kept) {
            wrong++;
            System.out.println("not kept: " + rule);
        }
    }
}
