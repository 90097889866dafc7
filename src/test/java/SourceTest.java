import java.io.IOException;
import java.nio.file.Files;
import java.nio.file.Path;
import java.util.regex.Matcher;
import java.util.regex.Pattern;

/** What LANGUAGE.md rules out and a look at the words of the source can find; run from the project's root. */
public final class SourceTest {
    private static final String[] RULED_OUT = {
        "^\\s*(import|package)\\b", "\\b(throw|throws|try|catch|finally|synchronized|assert|native|volatile|transient)\\b",
        "->", "::", "\\w+Exact\\b", "\\bSystem\\.(?!arraycopy\\b)", "\\b(Object|Class|Random|Thread|Scanner)\\b",
        "\\b(equals|hashCode|toString)\\b", "\\bprotected\\b", "\"[^\"]*\"\\s*\\+|\\+\\s*\"",
        "^\\s*(private |public )?static (?!final )[\\w\\[\\]]+ \\w+\\s*(=|;)", "\\bstatic\\s*\\{",
        "^\\s*(private )?(final )?class\\b", "[^\\x00-\\x7f]"};

    public static void main(String[] args) throws IOException {
        String source = Files.readString(Path.of("src/main/java/SoldLetters.java"));
        String code = source.replaceAll("(?s)/\\*.*?\\*/", "").replaceAll("//[^\n]*", "");
        for (String pattern : RULED_OUT) {
            Matcher found = Pattern.compile(pattern, Pattern.MULTILINE).matcher(code);
            Checks.isTrue("no " + pattern + (found.find() ? ", but " + found.group() : ""), !found.reset().find());
        }
        Checks.due("public classes", Pattern.compile("\\bpublic final class SoldLetters\\b").matcher(code).results().count(), 1);
        Checks.end();
    }
}
