import java.lang.reflect.Constructor;
import java.lang.reflect.Field;
import java.lang.reflect.Method;
import java.lang.reflect.Modifier;
import java.util.TreeSet;

/** The public face, and promise 1: a new object. */
public final class FaceTest {
    public static void main(String[] args) {
        face();
        newObject();
        objectsAreApart();
        Desk.end();
    }

    private static void face() {
        TreeSet<String> seen = new TreeSet<>();
        for (Constructor<?> c : SieveDesk.class.getDeclaredConstructors()) {
            if (!Modifier.isPrivate(c.getModifiers())) {
                seen.add(c.toString());
            }
        }
        for (Method m : SieveDesk.class.getDeclaredMethods()) {
            if (!Modifier.isPrivate(m.getModifiers()) && !m.isSynthetic()) {
                seen.add(m.toString());
            }
        }
        for (Field f : SieveDesk.class.getDeclaredFields()) {
            if (!Modifier.isPrivate(f.getModifiers()) && !f.isSynthetic()) {
                seen.add(f.toString());
            }
        }
        String want = "[public SieveDesk(), public boolean SieveDesk.put(long,int), "
            + "public int SieveDesk.check(), public int SieveDesk.count(int), public int SieveDesk.place()]";
        Desk.due("the face is " + seen + ", which", seen.toString().equals(want), true);
        int modifiers = SieveDesk.class.getModifiers();
        Desk.due("public and final", Modifier.isPublic(modifiers) && Modifier.isFinal(modifiers), true);
    }

    private static void newObject() {
        SieveDesk desk = new SieveDesk();
        Desk.due("new: place()", desk.place(), -1);
        for (int what = 0; what <= 3; what++) {
            Desk.due("new: count(" + what + ")", desk.count(what), 0);
        }
        Desk.due("new: check()", desk.check(), 0);
        Desk.due("new, checked: place()", desk.place(), -1);
    }

    private static void objectsAreApart() {
        SieveDesk one = new SieveDesk();
        SieveDesk other = new SieveDesk();
        Desk.put(one, "keep;foo");
        Desk.put(other, "keep; stop;");
        Desk.due("one: check()", one.check(), 1);
        Desk.due("other: count(0)", other.count(0), 11);
        Desk.due("other: check()", other.check(), 0);
        Desk.due("one: place()", one.place(), 5);
        Desk.due("one: count(1)", one.count(1), 1);
        Desk.due("other: place()", other.place(), -1);
        Desk.due("other: count(1)", other.count(1), 2);
    }
}
