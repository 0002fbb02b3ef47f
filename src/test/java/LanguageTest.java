import java.nio.file.Files;
import java.nio.file.Path;
import java.util.ArrayList;
import java.util.List;
import java.util.regex.Matcher;
import java.util.regex.Pattern;

/** Rules of LANGUAGE.md that can be read off the text of the class, as .ci/run stands at the root. */
public final class LanguageTest {
    private static final Check check = new Check();

    public static void main(String[] args) throws Exception {
        String whole = Files.readString(Path.of("src/main/java/GrassBridge.java"));
        check.due("signs beyond 127", whole.chars().filter(c -> c > 127).count(), 0);
        String text = whole.replaceAll("(?s)/\\*.*?\\*/", "").replaceAll("//[^\n]*", "");
        forbiddenWords(text);
        face(text);
        check.end();
    }

    private static void forbiddenWords(String text) {
        String[] words = {"throw", "throws", "try", "catch", "finally", "synchronized", "assert",
            "protected", "import", "package", "volatile", "native", "strictfp", "var",
            "equals", "hashCode", "toString", "System\\.(?!arraycopy)", "\\w+Exact\\b",
            "Integer\\.[A-Z]", "->", "::", "\\bstatic\\s*\\{", "private class", "Object", "Random", "Thread"};
        for (String word : words) {
            String bounded = word.matches("\\w+") ? "\\b" + word + "\\b" : word;
            Matcher found = Pattern.compile(bounded).matcher(text);
            check.due("uses of " + word, found.results().count(), 0);
        }
    }

    /** The public methods are those of the document, and no other method bears one of their names. */
    private static void face(String text) {
        String[] face = {"rain", "rainOf", "house", "set", "bring", "brought", "ask", "share", "owed",
            "close", "small", "lay", "hang", "cut", "tension", "strength", "bears", "load", "weeks",
            "till", "broken", "blame", "strands", "step", "clear", "plan", "planAt", "person", "alive",
            "master", "ropeOf", "count"};
        String method = "(?m)^ +((?:\\w+ )*)(?:int|boolean|void|long|int\\[\\]|[A-Z]\\w*) (\\w+)\\([^;]*\\{$";
        Matcher found = Pattern.compile(method).matcher(text);
        List<String> open = new ArrayList<>();
        List<String> hidden = new ArrayList<>();
        while (found.find()) {
            (found.group(1).contains("public") ? open : hidden).add(found.group(2));
        }
        check.due("public methods", open.size(), face.length);
        for (String name : face) {
            check.due("public " + name, open.contains(name) ? 1 : 0, 1);
            check.due("hidden " + name, hidden.contains(name) ? 1 : 0, 0);
        }
        check.due("hidden methods are seen", hidden.size() > 40 ? 1 : 0, 1);
        check.due("public things", Pattern.compile("\\bpublic\\b").matcher(text).results().count(),
                face.length + 2);
    }
}
