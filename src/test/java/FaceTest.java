import java.lang.reflect.Constructor;
import java.lang.reflect.Field;
import java.lang.reflect.Method;
import java.lang.reflect.Modifier;
import java.util.TreeSet;

/** The public face, and promise 1: a new object. */
public final class FaceTest {
    public static void main(String[] args) {
        face();
        newObject();
        objectsAreApart();
        Desk.end();
    }

    private static void face() {
        TreeSet<String> seen = new TreeSet<>();
        for (Constructor<?> c : SieveDesk.class.getDeclaredConstructors()) {
            if (!Modifier.isPrivate(c.getModifiers())) {
                seen.add(c.toString());
            }
        }
        for (Method m : SieveDesk.class.getDeclaredMethods()) {
            if (!Modifier.isPrivate(m.getModifiers()) && !m.isSynthetic()) {
                seen.add(m.toString());
            }
        }
        for (Field f : SieveDesk.class.getDeclaredFields()) {
            if (!Modifier.isPrivate(f.getModifiers()) && !f.isSynthetic()) {
                seen.add(f.toString());
            }
        }
        String want = "[public SieveDesk(), public boolean SieveDesk.put(long,int), "
            + "public int SieveDesk.check(), public int SieveDesk.count(int), public int SieveDesk.place()]";
        Desk.due("the face is " + seen + ", which", seen.toString().equals(want), true);
        int modifiers = SieveDesk.class.getModifiers();
        Desk.due("public and final", Modifier.isPublic(modifiers) && Modifier.isFinal(modifiers), true);
    }

    /** Each call is the first one of an object of its own. */
    private static void newObject() {
        Desk.sentence("No script.");
        Desk.due("new: place()", new SieveDesk().place(), -1);
        for (int what = 0; what <= 3; what++) {
            Desk.due("new: count(" + what + ")", new SieveDesk().count(what), 0);
        }
        Desk.due("new: count(-1)", new SieveDesk().count(-1), -1);
        Desk.due("new: count(4)", new SieveDesk().count(4), -1);
        Desk.due("new: put(;, 1)", new SieveDesk().put(';', 1), true);
        Desk.due("new: put(;, 0)", new SieveDesk().put(';', 0), false);
        Desk.due("new: put(.., 8)", new SieveDesk().put(-1L, 8), true);
        Desk.due("new: put(.., 9)", new SieveDesk().put(-1L, 9), false);
        Desk.due("new: check()", new SieveDesk().check(), 0);
        newAndChecked();
        newAndPut();
    }

    private static void newAndChecked() {
        SieveDesk desk = new SieveDesk();
        for (int turn = 0; turn < 3; turn++) {
            Desk.due("no script: check()", desk.check(), 0);
            Desk.due("no script: place()", desk.place(), -1);
            for (int what = 0; what <= 3; what++) {
                Desk.due("no script: count(" + what + ")", desk.count(what), 0);
            }
        }
    }

    /** What is put tells nothing of a check yet. */
    private static void newAndPut() {
        SieveDesk desk = new SieveDesk();
        Desk.due("a refused put", desk.put(0x6b6565703bL, 9), false);
        Desk.due("count(0)", desk.count(0), 0);
        Desk.put(desk, "require\"copy\";keep;foo");
        Desk.due("count(0)", desk.count(0), 22);
        Desk.due("place()", desk.place(), -1);
        for (int what = 1; what <= 3; what++) {
            Desk.due("count(" + what + ")", desk.count(what), 0);
        }
        Desk.due("check()", desk.check(), 1);
        Desk.due("place()", desk.place(), 19);
    }

    private static void objectsAreApart() {
        SieveDesk one = new SieveDesk();
        SieveDesk other = new SieveDesk();
        Desk.put(one, "keep;foo");
        Desk.put(other, "keep; stop;");
        Desk.due("one: check()", one.check(), 1);
        Desk.due("other: count(0)", other.count(0), 11);
        Desk.due("other: check()", other.check(), 0);
        Desk.due("one: place()", one.place(), 5);
        Desk.due("one: count(1)", one.count(1), 1);
        Desk.due("other: place()", other.place(), -1);
        Desk.due("other: count(1)", other.count(1), 2);
    }
}
