import java.nio.file.Files;
import java.nio.file.Path;
import java.util.regex.Matcher;
import java.util.regex.Pattern;

/** The rules of LANGUAGE.md that a look at the words of the source can tell. */
public final class LanguageTest {
    private static final String[] FORBIDDEN = {
        "\\bthrow\\b", "\\btry\\b", "\\bcatch\\b", "\\bsynchronized\\b", "\\bassert\\b", "\\bimport\\b",
        "\\bpackage\\b", "\\bprotected\\b", "->", "\\w::\\w", "\\bSystem\\.(?!arraycopy)", "Exact\\b",
        "\\bObject\\b", "\\bthread\\b", "static\\s*\\{", "@\\w+"
    };

    public static void main(String[] args) throws Exception {
        String source = Files.readString(Path.of(args.length > 0 ? args[0] : "src/main/java/ChantNeumes.java"));
        String code = source.replaceAll("(?s)/\\*.*?\\*/", " ").replaceAll("//[^\n]*", " ").replaceAll("'\\\\?.'", "0");
        for (String word : FORBIDDEN) {
            Matcher m = Pattern.compile(word).matcher(code);
            Check.due("the source has " + word, m.find() ? 1 : 0, 0);
        }
        staticFields(code);
        Check.finish();
    }

    private static void staticFields(String code) {
        Matcher m = Pattern.compile("\\bstatic (?!final )[^(;{]*[;=]").matcher(code);
        Check.due("static fields that are not final", m.find() ? m.group() : "", "");
    }
}
