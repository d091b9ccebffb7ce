import java.lang.reflect.Constructor;
import java.lang.reflect.Field;
import java.lang.reflect.Method;
import java.lang.reflect.Modifier;
import java.util.TreeSet;

/** The public face is the document's, and nothing else can be seen. */
final class FaceTest {
    private static final String FACE = "feed/5 county/1 fault/1 place/2 kin/2 why/1 by/2 hour/1 meal/1 weather/1 undo/1 "
        + "judge/2 perform/1 century/2 up/0 keeping/1 rows/1 needed/1 soonest/2 way/3 reach/0 bearers/0 stands/0 "
        + "seen/1 seenBy/2 suspects/2 weathers/1 attempt/1 lasts/0 best/0 chance/2 mean/2 numbers/3 write/3 lists/3 "
        + "image/1 restore/1 count/1";

    public static void main(String[] args) {
        TreeSet<String> want = new TreeSet<>(java.util.List.of(FACE.split(" ")));
        TreeSet<String> got = new TreeSet<>();
        TreeSet<String> names = new TreeSet<>();
        for (Method m : BearerKin.class.getDeclaredMethods()) {
            if (!Modifier.isPrivate(m.getModifiers())) {
                Check.due(m.getName() + " is public", Modifier.isPublic(m.getModifiers()) ? 1 : 0, 1);
                got.add(m.getName() + "/" + m.getParameterCount());
                names.add(m.getName());
                boolean wide = m.getName().matches("rows|seen|write");
                Check.due(m.getName() + " answers a long", m.getReturnType() == long.class ? 1 : 0, wide ? 1 : 0);
            }
        }
        Check.due("the methods are those of the document: " + got, got.equals(want) ? 1 : 0, 1);
        for (Method m : BearerKin.class.getDeclaredMethods()) {
            if (Modifier.isPrivate(m.getModifiers())) {
                Check.due("a name of its own: " + m.getName(), names.contains(m.getName()) ? 1 : 0, 0);
            }
        }
        for (Class<?> c : BearerKin.class.getDeclaredClasses()) {
            Check.due(c.getName() + " is static", Modifier.isStatic(c.getModifiers()) ? 1 : 0, 1);
            for (Method m : c.getDeclaredMethods()) {
                Check.due("a name of its own: " + m.getName(), names.contains(m.getName()) ? 1 : 0, 0);
            }
        }
        for (Field f : BearerKin.class.getDeclaredFields()) {
            boolean open = f.getName().equals("NONE");
            Check.due(f.getName() + " is seen", Modifier.isPrivate(f.getModifiers()) ? 0 : 1, open ? 1 : 0);
        }
        Constructor<?>[] made = BearerKin.class.getDeclaredConstructors();
        Check.due("one constructor", made.length, 1);
        Check.due("without parameters", made[0].getParameterCount(), 0);
        Check.due("the class is final", Modifier.isFinal(BearerKin.class.getModifiers()) ? 1 : 0, 1);
        Check.end("FaceTest");
    }
}
