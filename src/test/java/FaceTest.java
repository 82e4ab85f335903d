import java.lang.reflect.Constructor;
import java.lang.reflect.Field;
import java.lang.reflect.Method;
import java.lang.reflect.Modifier;
import java.util.Arrays;
import java.util.TreeSet;

/** The class has the members of the document's face and no other that is not private. */
public final class FaceTest {
    private static final String[] FACE = {
        "public static final int SteppedCache.NONE",
        "public SteppedCache(int,int)",
        "public boolean SteppedCache.write(int,int,int,int,int)",
        "public int SteppedCache.work(int)",
        "public int SteppedCache.outcome()",
        "public boolean SteppedCache.get(int,int)",
        "public int SteppedCache.step(int)",
        "public int SteppedCache.state(int)",
        "public int SteppedCache.value(int)",
        "public int SteppedCache.token(int)",
        "public boolean SteppedCache.pass(int)",
        "public int SteppedCache.where(int)",
        "public int SteppedCache.at(int)",
        "public int SteppedCache.item(int,int)",
        "public boolean SteppedCache.used(int)",
        "public int SteppedCache.version(int)",
        "public int SteppedCache.hash(int)",
        "public int SteppedCache.count(int)",
    };

    public static void main(String[] args) {
        TreeSet<String> seen = new TreeSet<>();
        TreeSet<String> publicNames = new TreeSet<>();
        for (Field f : SteppedCache.class.getDeclaredFields()) {
            addUnlessPrivate(seen, f.getModifiers(), f.toString());
        }
        for (Constructor<?> c : SteppedCache.class.getDeclaredConstructors()) {
            addUnlessPrivate(seen, c.getModifiers(), c.toString());
        }
        for (Method m : SteppedCache.class.getDeclaredMethods()) {
            addUnlessPrivate(seen, m.getModifiers(), m.toString());
            if (Modifier.isPublic(m.getModifiers())) {
                publicNames.add(m.getName());
            }
        }
        TreeSet<String> due = new TreeSet<>(Arrays.asList(FACE));
        if (!seen.equals(due)) {
            System.out.println("the face is " + seen);
        }
        Check.yes("the face", seen.equals(due));
        Check.yes("final", Modifier.isFinal(SteppedCache.class.getModifiers()));
        checkPrivateNames(SteppedCache.class, publicNames);
        for (Class<?> inside : SteppedCache.class.getDeclaredClasses()) {
            Check.yes(inside + " is static", Modifier.isStatic(inside.getModifiers()));
            Check.no(inside + " is public", Modifier.isPublic(inside.getModifiers()));
            checkPrivateNames(inside, publicNames);
        }
        Check.same("NONE", SteppedCache.NONE, -1);
        Check.end();
    }

    private static void addUnlessPrivate(TreeSet<String> seen, int modifiers, String member) {
        if (!Modifier.isPrivate(modifiers)) {
            seen.add(member);
        }
    }

    private static void checkPrivateNames(Class<?> owner, TreeSet<String> publicNames) {
        for (Method m : owner.getDeclaredMethods()) {
            Check.no(m + " bears a public name",
                    !Modifier.isPublic(m.getModifiers()) && publicNames.contains(m.getName()));
        }
    }
}
