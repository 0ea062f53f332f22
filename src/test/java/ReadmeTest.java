import java.lang.reflect.Method;
import java.nio.file.Files;
import java.nio.file.Path;
import java.util.regex.Matcher;
import java.util.regex.Pattern;

/** Makes the calls of README.md's example: each answers what its line tells. */
public final class ReadmeTest {
    private static final Pattern LINE = Pattern.compile("x\\.(\\w+)\\(([^)]*)\\); *// ('.'|-?\\d+)");

    public static void main(String[] args) throws Exception {
        String readme = Files.readString(Path.of("README.md"));
        int start = readme.indexOf("```java");
        String example = readme.substring(start, readme.indexOf("```", start + 3));
        ChantNeumes x = new ChantNeumes();
        int told = 0;
        Matcher m = LINE.matcher(example);
        while (m.find()) {
            told++;
            Check.due(m.group(1) + "(" + m.group(2) + ")", call(x, m.group(1), m.group(2)), number(m.group(3)));
        }
        int calls = example.split("x\\.\\w+\\(", -1).length - 1;
        Check.due("calls of the example whose answer is told", told, calls);
        Check.due("the example has calls", calls > 0 ? 1 : 0, 1);
        everyCallIsNamed(readme);
        Check.finish();
    }

    private static void everyCallIsNamed(String readme) {
        for (Method method : ChantNeumes.class.getMethods()) {
            if (method.getDeclaringClass() == ChantNeumes.class) {
                boolean named = readme.contains("`" + method.getName() + "`");
                Check.due("README.md names " + method.getName(), named ? 1 : 0, 1);
            }
        }
    }

    private static int call(ChantNeumes x, String name, String list) throws Exception {
        String[] words = list.isEmpty() ? new String[0] : list.split(", ");
        Class<?>[] types = new Class<?>[words.length];
        Object[] values = new Object[words.length];
        for (int i = 0; i < words.length; i++) {
            boolean isBoolean = words[i].equals("true") || words[i].equals("false");
            types[i] = isBoolean ? boolean.class : int.class;
            values[i] = isBoolean ? (Object) words[i].equals("true") : (Object) Long.decode(words[i]).intValue();
        }
        return (Integer) ChantNeumes.class.getMethod(name, types).invoke(x, values);
    }

    private static int number(String told) {
        return told.startsWith("'") ? told.charAt(1) : Integer.parseInt(told);
    }
}
