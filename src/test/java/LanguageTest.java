import java.lang.reflect.Field;
import java.lang.reflect.Method;
import java.lang.reflect.Modifier;
import java.nio.file.Files;
import java.nio.file.Path;
import java.util.regex.Matcher;
import java.util.regex.Pattern;

/** The rules of LANGUAGE.md that the words of the source and the compiled classes can tell. */
public final class LanguageTest {
    private static final String[] FORBIDDEN = {
        "\\bthrow\\b", "\\btry\\b", "\\bcatch\\b", "\\bsynchronized\\b", "\\bassert\\b", "\\bimport\\b",
        "\\bpackage\\b", "\\bprotected\\b", "->", "\\w::\\w", "\\bSystem\\.(?!arraycopy)", "Exact\\b",
        "\\bObject\\b", "\\bthread\\b", "static\\s*\\{", "@\\w+"
    };

    public static void main(String[] args) throws Exception {
        String source = Files.readString(Path.of(args.length > 0 ? args[0] : "src/main/java/ChantNeumes.java"));
        String code = source.replaceAll("(?s)/\\*.*?\\*/", " ").replaceAll("//[^\n]*", " ").replaceAll("'\\\\?.'", "0");
        for (String word : FORBIDDEN) {
            Matcher m = Pattern.compile(word).matcher(code);
            Check.due("the source has " + word, m.find() ? 1 : 0, 0);
        }
        staticFields(code);
        noCallMakesAnObject(code);
        longMethods(code);
        classesInside();
        Check.finish();
    }

    private static void staticFields(String code) {
        Matcher m = Pattern.compile("\\bstatic (?!final )[^(;{]*[;=]").matcher(code);
        Check.due("static fields that are not final", m.find() ? m.group() : "", "");
    }

    /** Rule 12, and the room that all calls share: rows are made in constructors alone. */
    private static void noCallMakesAnObject(String code) {
        String[] lines = code.split("\n");
        String method = "";
        for (String line : lines) {
            boolean constructorOrClass =
                    line.matches("\\s*(private |public )?[A-Z]\\w*\\([^;]*\\) \\{|.*\\bclass \\w+ \\{");
            if (constructorOrClass) {
                method = "";
            } else if (line.matches("\\s*(private |public )?(static )?\\w+(\\[\\])? \\w+\\([^;]*\\) \\{")) {
                method = line.trim();
            }
            if (!method.isEmpty()) {
                Check.due("an object made by " + method, line.matches(".*\\bnew\\b.*") ? line.trim() : "", "");
            }
        }
    }

    /** Rule 11: some sixty lines. A method's end is the brace below its own first letter. */
    private static void longMethods(String code) {
        String[] lines = code.split("\n");
        for (int first = 0; first < lines.length; first++) {
            Matcher m = Pattern.compile("( +)[\\w<>\\[\\] ]+\\([^;]*\\) \\{").matcher(lines[first]);
            if (m.matches() && !lines[first].matches(" *(if|for|while|switch) .*")) {
                int last = first;
                while (last < lines.length - 1 && !lines[last].equals(m.group(1) + "}")) {
                    last++;
                }
                Check.due("a long method: " + lines[first].trim(), last - first > 60 ? 1 : 0, 0);
            }
        }
    }

    /** Rules 1, 2 and 11, as the compiled classes tell. */
    private static void classesInside() {
        Class<?>[] inside = ChantNeumes.class.getDeclaredClasses();
        Check.due("more than twelve classes", inside.length + 1 > 12 ? 1 : 0, 0);
        counts(ChantNeumes.class);
        for (Class<?> c : inside) {
            int m = c.getModifiers();
            Check.due(c + " is static", Modifier.isStatic(m) ? 1 : 0, 1);
            Check.due(c + " is public or protected", Modifier.isPublic(m) || Modifier.isProtected(m) ? 1 : 0, 0);
            counts(c);
        }
    }

    private static void counts(Class<?> c) {
        int fields = 0;
        for (Field field : c.getDeclaredFields()) {
            boolean isStatic = Modifier.isStatic(field.getModifiers());
            fields += isStatic ? 0 : 1;
            Check.due("a static field that can change: " + field,
                    isStatic && !Modifier.isFinal(field.getModifiers()) ? 1 : 0, 0);
        }
        Check.due("more than twenty fields: " + c, fields > 20 ? 1 : 0, 0);
        for (Method method : c.getDeclaredMethods()) {
            Check.due("more than seven parameters: " + method, method.getParameterCount() > 7 ? 1 : 0, 0);
            if (!Modifier.isPublic(method.getModifiers())) {
                Check.due("the name of a public method: " + method, isPublicName(method.getName()) ? 1 : 0, 0);
            }
        }
    }

    private static boolean isPublicName(String name) {
        for (Method method : ChantNeumes.class.getDeclaredMethods()) {
            if (Modifier.isPublic(method.getModifiers()) && method.getName().equals(name)) {
                return true;
            }
        }
        return false;
    }
}
