import java.lang.reflect.Constructor;
import java.lang.reflect.Method;
import java.lang.reflect.Modifier;
import java.util.Arrays;
import java.util.TreeSet;

/** The public face is the document's, and nothing more can be seen from outside. */
public final class FaceTest {
    public static void main(String[] args) {
        Check.same("class is public and final", QueueDisk.class.getModifiers(), Modifier.PUBLIC | Modifier.FINAL);
        TreeSet<String> seen = new TreeSet<>();
        for (Method m : QueueDisk.class.getDeclaredMethods()) {
            if (!Modifier.isPrivate(m.getModifiers())) {
                seen.add(m.toString());
            }
        }
        for (Constructor<?> c : QueueDisk.class.getDeclaredConstructors()) {
            seen.add(c.toString());
        }
        TreeSet<String> due = new TreeSet<>(Arrays.asList(
            "public QueueDisk(int)",
            "public long QueueDisk.load(long,int)" + BOTH,
            "public void QueueDisk.store(long,int,long)" + BOTH,
            "public int QueueDisk.read(int)" + BOUNDS,
            "public void QueueDisk.write(int,int)" + BOUNDS,
            "public boolean QueueDisk.line()",
            "public int QueueDisk.disk(int)" + BOUNDS,
            "public void QueueDisk.setDisk(int,int)" + BOUNDS,
            "public int QueueDisk.answered()",
            "public int QueueDisk.changed()"));
        Check.same("face " + seen + " is " + due, seen.equals(due), true);
        long open = Arrays.stream(QueueDisk.class.getDeclaredFields())
            .filter(f -> !Modifier.isPrivate(f.getModifiers())).count();
        Check.same("fields seen from outside", open, 0);
        Check.end();
    }

    private static final String BOUNDS = " throws java.lang.IndexOutOfBoundsException";
    private static final String BOTH =
        " throws java.lang.IllegalArgumentException,java.lang.IndexOutOfBoundsException";
}
