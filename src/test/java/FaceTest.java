import java.lang.reflect.Constructor;
import java.lang.reflect.Field;
import java.lang.reflect.Method;
import java.lang.reflect.Modifier;
import java.util.Set;
import java.util.TreeSet;

/** The class has the document's face, and no other member that is seen from outside. */
public final class FaceTest {
    private static final Set<String> FACE = Set.of(
        "public static final int SignQuorum.NONE",
        "public SignQuorum()",
        "public int SignQuorum.key(long,long)",
        "public boolean SignQuorum.quorum(int,int)",
        "public boolean SignQuorum.holds(int,int,boolean)",
        "public int SignQuorum.row(int,int,long)",
        "public int SignQuorum.octet(int,int)",
        "public boolean SignQuorum.tells(int,int,int)",
        "public int SignQuorum.delegate(int,int,int,boolean)",
        "public int SignQuorum.lists(int,int)",
        "public long SignQuorum.sign(int,int)",
        "public boolean SignQuorum.forge(int,int,long)",
        "public int SignQuorum.verify(int,long)",
        "public int SignQuorum.update(int,long)",
        "public boolean SignQuorum.revoke(int)",
        "public int SignQuorum.find(int)",
        "public int SignQuorum.version(int)",
        "public int SignQuorum.current(int)",
        "public int SignQuorum.hash(int)",
        "public byte SignQuorum.digest(int) throws java.lang.ArrayIndexOutOfBoundsException",
        "public int SignQuorum.about(int,int)");

    public static void main(String[] args) {
        Check check = new Check();
        Set<String> seen = new TreeSet<>();
        Set<String> publicNames = new TreeSet<>();
        for (Field f : SignQuorum.class.getDeclaredFields()) {
            addIfSeen(seen, f.getModifiers(), f.toString());
            if (Modifier.isStatic(f.getModifiers())) {
                check.yes(f + " is final", Modifier.isFinal(f.getModifiers()));
            }
        }
        for (Constructor<?> c : SignQuorum.class.getDeclaredConstructors()) {
            addIfSeen(seen, c.getModifiers(), c.toString());
        }
        for (Method m : SignQuorum.class.getDeclaredMethods()) {
            addIfSeen(seen, m.getModifiers(), m.toString());
            if (Modifier.isPublic(m.getModifiers())) {
                publicNames.add(m.getName());
            }
        }
        for (String member : FACE) {
            check.yes(member + " is there", seen.contains(member));
        }
        for (String member : seen) {
            check.yes(member + " belongs to the face", FACE.contains(member));
        }
        check.yes("the class is final", Modifier.isFinal(SignQuorum.class.getModifiers()));
        lookInside(check, publicNames);
        check.end();
    }

    private static void addIfSeen(Set<String> seen, int modifiers, String text) {
        if (!Modifier.isPrivate(modifiers)) {
            seen.add(text);
        }
    }

    private static void lookInside(Check check, Set<String> publicNames) {
        for (Method m : SignQuorum.class.getDeclaredMethods()) {
            if (Modifier.isPrivate(m.getModifiers())) {
                check.no(m + " bears a public name", publicNames.contains(m.getName()));
            }
        }
        for (Class<?> inside : SignQuorum.class.getDeclaredClasses()) {
            check.yes(inside + " is static", Modifier.isStatic(inside.getModifiers()));
            check.no(inside + " is public", Modifier.isPublic(inside.getModifiers()));
            for (Method m : inside.getDeclaredMethods()) {
                check.no(m + " bears a public name", publicNames.contains(m.getName()));
            }
        }
    }
}
