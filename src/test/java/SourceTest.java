import java.io.IOException;
import java.nio.file.Files;
import java.nio.file.Path;
import java.util.List;
import java.util.regex.Matcher;
import java.util.regex.Pattern;

/** What LANGUAGE.md rules out and a look at the words of the source can find; run from the project's root. */
public final class SourceTest {
    private static final String[] RULED_OUT = {
        "^\\s*(import|package)\\b", "\\b(throw|throws|try|catch|finally|synchronized|assert|native|volatile|transient)\\b",
        "->", "::", "\\w+Exact\\b", "\\bSystem\\.(?!arraycopy\\b)", "\\b(Object|Class|Random|Thread|Scanner)\\b",
        "\\b(equals|hashCode|toString)\\b", "\\bprotected\\b", "\"[^\"]*\"\\s*\\+|\\+\\s*\"",
        "^\\s*(private |public )?static (?!final )[\\w\\[\\]]+ \\w+\\s*(=|;)", "\\bstatic\\s*\\{",
        "^\\s*(private )?(final )?class\\b", "[^\\x00-\\x7f]"};
    private static final int MOST_LINES = 60;
    private static final int MOST_PARAMETERS = 7;
    private static final int MOST_CLASSES = 12;

    public static void main(String[] args) throws IOException {
        String source = Files.readString(Path.of("src/main/java/SoldLetters.java"));
        String code = source.replaceAll("(?s)/\\*.*?\\*/", "").replaceAll("//[^\n]*", "");
        for (String pattern : RULED_OUT) {
            Matcher found = Pattern.compile(pattern, Pattern.MULTILINE).matcher(code);
            Checks.isTrue("no " + pattern + (found.find() ? ", but " + found.group() : ""), !found.reset().find());
        }
        libraryIsAllowed(code);
        methodsAreShort(code);
        long classes = Pattern.compile("\\b(class|enum|interface|record) [A-Z]").matcher(code).results().count();
        Checks.isTrue(classes + " classes", classes <= MOST_CLASSES);
        Checks.due("public classes", Pattern.compile("\\bpublic final class SoldLetters\\b").matcher(code).results().count(), 1);
        Checks.end();
    }

    /** Of classes outside the file only those functions that the rules list, and that the program has a use for. */
    private static void libraryIsAllowed(String code) {
        Matcher call = Pattern.compile("\\b([A-Z]\\w*[a-z]\\w*)\\.(\\w+)").matcher(code);
        while (call.find()) {
            String name = call.group();
            Checks.isTrue(name + " is in the library", List.of("System.arraycopy", "Math.min", "Integer.bitCount").contains(name));
        }
    }

    /** A method begins with a line that ends in ") {" and is no other statement; its end is a bracket as far to the left. */
    private static void methodsAreShort(String code) {
        Matcher method = Pattern.compile("(?ms)^( +)(?:public |private )?(?:static )?(?:\\w+ )?(\\w+)\\(([^()\n]*)\\) \\{\n(.*?)^\\1\\}").matcher(code);
        int methods = 0;
        while (method.find()) {
            methods++;
            long lines = method.group(4).lines().count();
            Checks.isTrue(method.group(2) + " has " + lines + " lines", lines <= MOST_LINES);
            int parameters = method.group(3).isEmpty() ? 0 : method.group(3).split(",").length;
            Checks.isTrue(method.group(2) + " has " + parameters + " parameters", parameters <= MOST_PARAMETERS);
        }
        Checks.isTrue("methods were found: " + methods, methods > SoldLetters.class.getDeclaredMethods().length);
    }
}
