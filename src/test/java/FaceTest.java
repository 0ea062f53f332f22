import java.lang.reflect.Constructor;
import java.lang.reflect.Field;
import java.lang.reflect.Method;
import java.lang.reflect.Modifier;
import java.util.Arrays;
import java.util.stream.Collectors;

/** The public face, and promise 1: a new object. */
public final class FaceTest {
    private static final String[] FACE = {
        "public int feed(int, int, int, int, int)", "public int end(int)", "public int read()", "public int place()",
        "public int syllable(int, int)", "public int note(int, int)", "public int neume(int, int)",
        "public int bar(int, int)", "public int guide(int)", "public int mode(int)", "public int tone(int)",
        "public int point(int, boolean)", "public int fresh()", "public int half(int, int)",
        "public int sung(int, int, int)", "public int write()", "public int at(int)", "public int count(int)"
    };

    public static void main(String[] args) {
        constants();
        members();
        newObject();
        Check.finish();
    }

    private static void constants() {
        Check.due("NONE", ChantNeumes.NONE, -100);
        Check.due("UNKNOWN", ChantNeumes.UNKNOWN, -101);
        Check.due("OUTSIDE", ChantNeumes.OUTSIDE, -102);
        Check.due("STATE", ChantNeumes.STATE, -103);
        Check.due("ROOM", ChantNeumes.ROOM, -104);
    }

    private static void members() {
        Check.due("modifiers", ChantNeumes.class.getModifiers(), Modifier.PUBLIC | Modifier.FINAL);
        Constructor<?>[] constructors = ChantNeumes.class.getDeclaredConstructors();
        Check.due("constructors", constructors.length, 1);
        Check.due("the constructor", constructors[0].toString(), "public ChantNeumes()");
        Method[] methods = Arrays.stream(ChantNeumes.class.getDeclaredMethods())
                .filter(m -> !Modifier.isPrivate(m.getModifiers()) && !m.isSynthetic())
                .toArray(Method[]::new);
        Check.due("how many methods", methods.length, FACE.length);
        for (String due : FACE) {
            boolean there = Arrays.stream(methods).anyMatch(m -> told(m).equals(due));
            Check.due("the face has " + due, there ? 1 : 0, 1);
        }
        String[] fields = Arrays.stream(ChantNeumes.class.getDeclaredFields())
                .filter(f -> !Modifier.isPrivate(f.getModifiers()) && !f.isSynthetic())
                .map(Field::toString).sorted().toArray(String[]::new);
        String[] names = {"NONE", "OUTSIDE", "ROOM", "STATE", "UNKNOWN"};
        Check.due("how many fields", fields.length, names.length);
        for (int i = 0; i < Math.min(fields.length, names.length); i++) {
            Check.due("a field", fields[i], "public static final int ChantNeumes." + names[i]);
        }
    }

    /** A method as the document's face has it, without the names of its parameters. */
    private static String told(Method m) {
        return Modifier.toString(m.getModifiers()) + " " + m.getReturnType().getName() + " " + m.getName()
                + Arrays.stream(m.getParameterTypes()).map(Class::getName).collect(Collectors.joining(", ", "(", ")"));
    }

    private static void newObject() {
        Chant x = new Chant();
        Check.due("counts", Check.row(9, x::count), "0 0 0 0 0 0 0 0 0");
        Check.due("place()", x.place(), -100);
        Check.due("syllable(0, 0)", x.syllable(0, 0), -101);
        Check.due("note(0, 0)", x.note(0, 0), -101);
        Check.due("neume(0, 0)", x.neume(0, 0), -101);
        Check.due("bar(0, 0)", x.bar(0, 0), -101);
        Check.due("guide(0)", x.guide(0), -101);
        Check.due("mode(0)", x.mode(0), -103);
        Check.due("half(0, what)", Check.row(4, i -> x.half(0, i)), "0 1 -100 -100");
        Check.due("half(1, what)", Check.row(4, i -> x.half(1, i)), "0 1 -100 -100");
        Check.due("sung(0, 0, 0)", x.sung(0, 0, 0), -100);
        Check.due("at(0)", x.at(0), -100);
        Check.due("write()", x.write(), 0);
        Check.due("fresh()", x.fresh(), 0);
        Check.due("tone(3)", x.tone(3), 1);
        Check.due("read()", x.read(), 0);
    }
}
