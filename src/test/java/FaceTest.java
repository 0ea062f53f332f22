import java.lang.reflect.Constructor;
import java.lang.reflect.Field;
import java.lang.reflect.Method;
import java.lang.reflect.Modifier;
import java.util.Arrays;

/** The public face, and promise 1: a new object. */
public final class FaceTest {
    public static void main(String[] args) {
        constants();
        members();
        newObject();
        Check.finish();
    }

    private static void constants() {
        Check.due("NONE", ChantNeumes.NONE, -100);
        Check.due("UNKNOWN", ChantNeumes.UNKNOWN, -101);
        Check.due("OUTSIDE", ChantNeumes.OUTSIDE, -102);
        Check.due("STATE", ChantNeumes.STATE, -103);
        Check.due("ROOM", ChantNeumes.ROOM, -104);
    }

    private static void members() {
        Check.due("modifiers", ChantNeumes.class.getModifiers(), Modifier.PUBLIC | Modifier.FINAL);
        Constructor<?>[] constructors = ChantNeumes.class.getDeclaredConstructors();
        Check.due("constructors", constructors.length, 1);
        String[] methods = Arrays.stream(ChantNeumes.class.getDeclaredMethods())
                .filter(m -> !Modifier.isPrivate(m.getModifiers()) && !m.isSynthetic())
                .map(Method::getName).sorted().toArray(String[]::new);
        Check.due("methods", String.join(" ", methods), "at bar count end feed fresh guide half mode"
                + " neume note place point read sung syllable tone write");
        String[] fields = Arrays.stream(ChantNeumes.class.getDeclaredFields())
                .filter(f -> !Modifier.isPrivate(f.getModifiers()) && !f.isSynthetic())
                .map(Field::getName).sorted().toArray(String[]::new);
        Check.due("fields", String.join(" ", fields), "NONE OUTSIDE ROOM STATE UNKNOWN");
    }

    private static void newObject() {
        Chant x = new Chant();
        Check.due("counts", Check.row(9, x::count), "0 0 0 0 0 0 0 0 0");
        Check.due("place()", x.place(), -100);
        Check.due("syllable(0, 0)", x.syllable(0, 0), -101);
        Check.due("note(0, 0)", x.note(0, 0), -101);
        Check.due("neume(0, 0)", x.neume(0, 0), -101);
        Check.due("bar(0, 0)", x.bar(0, 0), -101);
        Check.due("guide(0)", x.guide(0), -101);
        Check.due("mode(0)", x.mode(0), -103);
        Check.due("half(0, what)", Check.row(4, i -> x.half(0, i)), "0 1 -100 -100");
        Check.due("half(1, what)", Check.row(4, i -> x.half(1, i)), "0 1 -100 -100");
        Check.due("sung(0, 0, 0)", x.sung(0, 0, 0), -100);
        Check.due("at(0)", x.at(0), -100);
        Check.due("write()", x.write(), 0);
        Check.due("fresh()", x.fresh(), 0);
        Check.due("tone(3)", x.tone(3), 1);
        Check.due("read()", x.read(), 0);
    }
}
