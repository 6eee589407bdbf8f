import java.lang.reflect.Constructor;
import java.lang.reflect.Field;
import java.lang.reflect.Method;
import java.lang.reflect.Modifier;
import java.util.Arrays;
import java.util.TreeSet;

/** The public face is the document's, and nothing more can be seen. */
public final class FaceTests {
    private static final String[] HEADS = {
        "int feed 5", "boolean end 1", "int suburb 0", "int fault 0", "int person 2", "int turret 2", "int looks 2", "int now 1",
        "int climb 2", "int land 1", "int tell 3", "int storm 1", "int wall 1", "int unwall 1", "int days 1", "int undo 0",
        "int behind 2", "int soonest 1", "int soonestAt 1", "int made 0", "int madeAt 1", "int ask 0", "int cover 0",
        "int covering 0", "int party 0", "int partyOf 1", "int tea 0", "int teaOf 1", "int when 2", "int card 1", "int byteAt 1",
        "int drawn 2", "int odds 3", "int book 1", "int told 1", "int sentence 0", "int said 1", "boolean image 1",
        "boolean restore 1", "int count 1"};

    public static void main(String[] args) {
        TreeSet<String> due = new TreeSet<>(Arrays.asList(HEADS));
        TreeSet<String> names = new TreeSet<>();
        for (String head : HEADS) {
            names.add(head.split(" ")[1]);
        }
        for (Method m : TurretViews.class.getDeclaredMethods()) {
            if (Modifier.isPrivate(m.getModifiers())) {
                Check.no("private " + m.getName() + " bears a public name", names.contains(m.getName()));
            } else {
                String head = m.getReturnType() + " " + m.getName() + " " + m.getParameterCount();
                Check.yes(head + " is public", Modifier.isPublic(m.getModifiers()));
                Check.yes(head + " is of the face", due.remove(head));
            }
        }
        Check.is("methods that are missing: " + due, due.size(), 0);
        for (Field f : TurretViews.class.getDeclaredFields()) {
            boolean none = f.getName().equals("NONE");
            Check.yes(f.getName(), none ? Modifier.isPublic(f.getModifiers()) : Modifier.isPrivate(f.getModifiers()));
        }
        Constructor<?>[] constructors = TurretViews.class.getDeclaredConstructors();
        Check.is("constructors", constructors.length, 1);
        Check.yes("final", Modifier.isFinal(TurretViews.class.getModifiers()));
        Check.end();
    }
}
