import java.lang.reflect.Constructor;
import java.lang.reflect.Field;
import java.lang.reflect.Method;
import java.lang.reflect.Modifier;
import java.util.TreeSet;

/** The public face, and nothing beside it that another class could see. */
public final class FaceTest {
    private static final Check check = new Check();
    private static final String[] FACE = {
        "public boolean SlotPaxos.lose(int)",
        "public boolean SlotPaxos.request(int,int)",
        "public boolean SlotPaxos.turn(int,boolean)",
        "public boolean SlotPaxos.twice(int)",
        "public int SlotPaxos.deliver(int)",
        "public int SlotPaxos.look(int)",
        "public int SlotPaxos.message(int,int)",
        "public int SlotPaxos.replica(int,int)",
        "public int SlotPaxos.slot(int,int)",
        "public int SlotPaxos.tick(int)",
        "public int SlotPaxos.waiting(int,int)",
        "public static final int SlotPaxos.NONE",
        "public SlotPaxos(int,int)",
    };

    public static void main(String[] args) {
        isTheFaceAlone();
        namesNothingLikeTheFace();
        hasNoStateOfAll();
        check.end();
    }

    private static void isTheFaceAlone() {
        TreeSet<String> seen = new TreeSet<>();
        for (Method method : SlotPaxos.class.getDeclaredMethods()) {
            if (!Modifier.isPrivate(method.getModifiers()) && !method.isSynthetic()) {
                seen.add(method.toGenericString());
            }
        }
        for (Field field : SlotPaxos.class.getDeclaredFields()) {
            if (!Modifier.isPrivate(field.getModifiers())) {
                seen.add(field.toGenericString());
            }
        }
        for (Constructor<?> constructor : SlotPaxos.class.getDeclaredConstructors()) {
            seen.add(constructor.toGenericString());
        }
        for (String due : FACE) {
            check.same(due, seen.remove(due), true);
        }
        for (String odd : seen) {
            check.same(odd, true, false);
        }
        int modifiers = SlotPaxos.class.getModifiers();
        check.same("public and final", Modifier.isPublic(modifiers) && Modifier.isFinal(modifiers), true);
    }

    /** LANGUAGE.md, rule 1: "No private method bears the name of a public one". */
    private static void namesNothingLikeTheFace() {
        for (Method method : SlotPaxos.class.getDeclaredMethods()) {
            for (Method other : SlotPaxos.class.getDeclaredMethods()) {
                boolean clash = Modifier.isPublic(method.getModifiers()) && Modifier.isPrivate(other.getModifiers())
                        && method.getName().equals(other.getName());
                check.same(other.toGenericString(), clash, false);
            }
        }
    }

    /** LANGUAGE.md, rules 1, 2 and 5: classes inside are static, not public, and static fields are constants. */
    private static void hasNoStateOfAll() {
        for (Class<?> inside : SlotPaxos.class.getDeclaredClasses()) {
            int modifiers = inside.getModifiers();
            check.same(inside + " is static", Modifier.isStatic(modifiers), true);
            check.same(inside + " is open", Modifier.isPublic(modifiers) || Modifier.isProtected(modifiers), false);
            staticsAreFinal(inside);
        }
        staticsAreFinal(SlotPaxos.class);
    }

    private static void staticsAreFinal(Class<?> one) {
        for (Field field : one.getDeclaredFields()) {
            boolean changes = Modifier.isStatic(field.getModifiers()) && !Modifier.isFinal(field.getModifiers());
            check.same(field.toGenericString(), changes, false);
        }
    }
}
