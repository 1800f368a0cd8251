import java.lang.reflect.Constructor;
import java.lang.reflect.Field;
import java.lang.reflect.Method;
import java.lang.reflect.Modifier;
import java.util.Set;
import java.util.TreeSet;

/** The class has the face of the document, and no other member that is not private. */
public final class FaceTest {
    private static final Set<String> DUE = new TreeSet<>(Set.of(
            "NO_SUCH=-1", "BAD_VALUE=-2", "BAD_TEXT=-3", "TOO_MANY=-4", "NOT_POSSIBLE=-5", "NONE=-6",
            "public SplitBeliefs()", "public int SplitBeliefs.prior(int)", "public int SplitBeliefs.hire(int,int,int,int)",
            "public int SplitBeliefs.dismiss(int)", "public int SplitBeliefs.refine(int,int,int)",
            "public int SplitBeliefs.join(int)", "public int SplitBeliefs.adopt()",
            "public int SplitBeliefs.receiver(int,int)", "public int SplitBeliefs.part(int,int)",
            "public int SplitBeliefs.value(int)", "public int SplitBeliefs.mean(int)",
            "public int SplitBeliefs.worth(int,int)", "public int SplitBeliefs.count(int)",
            "public int SplitBeliefs.envelope(int,int)", "public int SplitBeliefs.best(int,int)",
            "public int SplitBeliefs.mostGained(int)", "public int SplitBeliefs.put(long)",
            "public int SplitBeliefs.wipe()", "public int SplitBeliefs.fault()", "public int SplitBeliefs.carryOut()",
            "public int SplitBeliefs.undo()", "public int SplitBeliefs.save(int)", "public int SplitBeliefs.restore(int)"));

    public static void main(String[] args) throws IllegalAccessException {
        Set<String> found = new TreeSet<>();
        Set<String> publicNames = new TreeSet<>();
        Set<String> privateNames = new TreeSet<>();
        for (Field field : SplitBeliefs.class.getDeclaredFields()) {
            if (!Modifier.isPrivate(field.getModifiers())) {
                found.add(field.getName() + "=" + field.getInt(null));
            }
        }
        for (Constructor<?> constructor : SplitBeliefs.class.getDeclaredConstructors()) {
            found.add(constructor.toString());
        }
        for (Method method : SplitBeliefs.class.getDeclaredMethods()) {
            if (Modifier.isPrivate(method.getModifiers())) {
                privateNames.add(method.getName());
            } else {
                found.add(method.toString());
                publicNames.add(method.getName());
            }
        }
        privateNames.retainAll(publicNames);
        Due due = new Due();
        due.about("the face");
        due.is("of " + found + " the same as " + DUE, found.equals(DUE) ? 1 : 0, 1);
        due.is("private names of public methods " + privateNames, privateNames.size(), 0);
        due.is("public and final", SplitBeliefs.class.getModifiers(), Modifier.PUBLIC | Modifier.FINAL);
        due.is("public classes inside", SplitBeliefs.class.getClasses().length, 0);
        for (Class<?> inside : SplitBeliefs.class.getDeclaredClasses()) {
            due.is(inside + " is static", Modifier.isStatic(inside.getModifiers()) ? 1 : 0, 1);
            due.is("private names of public methods in " + inside, privateNamesOf(inside, publicNames), 0);
        }
        due.end();
    }

    private static int privateNamesOf(Class<?> inside, Set<String> publicNames) {
        int found = 0;
        for (Method method : inside.getDeclaredMethods()) {
            if (Modifier.isPrivate(method.getModifiers()) && publicNames.contains(method.getName())) {
                found++;
            }
        }
        return found;
    }
}
