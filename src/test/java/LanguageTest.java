import java.io.IOException;
import java.nio.file.Files;
import java.nio.file.Path;
import java.util.regex.Matcher;
import java.util.regex.Pattern;

/** The rules of LANGUAGE.md that can be read off the text of ColdWorks.java; it is run from the project's directory. */
public final class LanguageTest {
    private static final Path SOURCE = Path.of("src/main/java/ColdWorks.java");
    private static final int MOST_LINES_OF_A_METHOD = 60, MOST_CLASSES = 12;

    public static void main(String[] args) throws IOException {
        String text = Files.readString(SOURCE);
        String code = text.replaceAll("(?s)/\\*.*?\\*/", "").replaceAll("//[^\n]*", "");
        forbiddenWords(code);
        imports(code);
        classes(code);
        methods(code);
        Due.is("characters beyond 255", text.chars().filter(ch -> ch > 255).count(), 0);
        Due.end("LanguageTest");
    }

    private static void forbiddenWords(String code) {
        String[] words = {
            "\\bthrow\\b", "\\btry\\b", "\\bcatch\\b", "\\bsynchronized\\b", "\\bassert\\b", "\\bpackage\\b", "->",
            "::", "\\w+Exact\\b", "\\bprotected\\b", "\\bSystem\\.(?!arraycopy\\b)", "\\bRandom\\b", "\\bThread\\b",
            "\\bstatic\\s*\\{", "\\bObject\\b", "\\bhashCode\\b", "\\btoString\\b", "\\bvolatile\\b", "\\bnative\\b"
        };
        for (String word : words) {
            Due.is("places with " + word, places(code, word), 0);
        }
    }

    private static void imports(String code) {
        Matcher m = Pattern.compile("\\bimport\\s+([\\w.*]+)").matcher(code);
        while (m.find()) {
            boolean listed = m.group(1).matches("java\\.util\\.(Arrays|ArrayList|List|Iterator)");
            Due.is("import " + m.group(1) + " is listed", listed ? 1 : 0, 1);
        }
    }

    private static void classes(String code) {
        long all = places(code, "\\b(class|record|enum|interface)\\s+\\w+");
        Due.is("classes are few", all <= MOST_CLASSES ? 1 : 0, 1);
        Due.is("public classes", places(code, "\\bpublic\\s+(final\\s+)?class\\b"), 1);
        long nested = places(code, "\\b(private\\s+)?static\\s+(final\\s+|abstract\\s+)?(class|interface)\\s+\\w+");
        Due.is("all classes inside are static", nested, all - 1);
        long unfixed = places(code, "\\bstatic\\s+(?!final\\b|class\\b)[\\w\\[\\]]+\\s+\\w+\\s*[=;,]");
        Due.is("static fields that are not final", unfixed, 0);
    }

    /** A method's lines are counted from its head to the bracket of the same depth. */
    private static void methods(String code) {
        String method = "(?m)^( +)(?!.*\\bclass\\b)[\\w\\[\\] ]+\\(([^)]*)\\) \\{\n(?s:.*?)\n\\1\\}";
        Matcher m = Pattern.compile(method).matcher(code);
        while (m.find()) {
            String head = m.group().strip().split("\n")[0];
            Due.is(head + " is short", m.group().split("\n").length <= MOST_LINES_OF_A_METHOD ? 1 : 0, 1);
            Due.is(head + " has few parameters", m.group(2).split(",").length <= 7 ? 1 : 0, 1);
        }
    }

    private static long places(String code, String pattern) {
        return Pattern.compile(pattern).matcher(code).results().count();
    }
}
