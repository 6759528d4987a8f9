import java.lang.reflect.Constructor;
import java.lang.reflect.Field;
import java.lang.reflect.Method;
import java.lang.reflect.Modifier;
import java.util.Arrays;
import java.util.Set;
import java.util.TreeSet;

/** The class has the document's face and nothing else that can be seen, as LANGUAGE.md's rule 1 says. */
public final class FaceTest {
    private static final String I = " IndexOutOfBoundsException";
    private static final String A = " IllegalArgumentException";
    private static final String S = " IllegalStateException";
    private static final String[] FACE = {
        "int addCrossing()" + S, "int addRoad(int int int int)" + I + A + S, "int addTourist(int int)" + I + A + S,
        "int mend(int int)" + I + A + S, "int cutKnots(int)" + I + S, "int pass(int)" + A,
        "int hour()", "int crossings()", "int roads()", "int tourists()", "int arrived()",
        "int closedRoads()", "int allFrayed()",
        "int lengthOf(int)" + I, "int wearOf(int)" + I, "int knotsOf(int)" + I, "int closedFor(int)" + I,
        "int touristsOn(int)" + I, "int mostWorn()",
        "int openDistance(int int)" + I, "int distance(int int)" + I, "int nextRoad(int int)" + I,
        "int partedPairs()",
        "int placeOf(int)" + I, "int roadOf(int)" + I, "int dyeOf(int)" + I, "int frayOf(int)" + I,
        "boolean hasArrived(int)" + I,
        "int hoursUntilArrived(int)" + I, "int frayedIn(int)" + A, "int bestToMend()",
        "double meanLength()", "long digest()",
    };

    private final Check check = new Check("FaceTest");
    private final Set<String> faceNames = new TreeSet<>();

    public static void main(String[] args) {
        FaceTest test = new FaceTest();
        test.theClass();
        test.theMethods();
        test.nothingElseIsSeen(DetourLoom.class);
        for (Class<?> inside : DetourLoom.class.getDeclaredClasses()) {
            test.nothingElseIsSeen(inside);
            test.classInside(inside);
        }
        test.callsMakeNoObjects();
        test.check.end();
    }

    private void theClass() {
        Class<?> c = DetourLoom.class;
        check.tell(Modifier.isPublic(c.getModifiers()) && Modifier.isFinal(c.getModifiers()), "1 not public final");
        check.tell(c.getPackageName().isEmpty(), "1 in a package");
        Constructor<?>[] made = c.getDeclaredConstructors();
        check.due("1 constructors", made.length, 1);
        check.tell(Modifier.isPublic(made[0].getModifiers()), "1 the constructor is not public");
        check.due("1 its parameters", made[0].getParameterCount(), 0);
    }

    private void theMethods() {
        Set<String> want = new TreeSet<>(Arrays.asList(FACE));
        Set<String> got = new TreeSet<>();
        for (Method m : DetourLoom.class.getDeclaredMethods()) {
            if (Modifier.isPublic(m.getModifiers())) {
                got.add(told(m));
                faceNames.add(m.getName());
            }
        }
        check.due("methods of the face", want.size(), 33);
        check.tell(want.equals(got), "the face is " + got);
    }

    private static String told(Method m) {
        StringBuilder text = new StringBuilder();
        text.append(m.getReturnType()).append(' ').append(m.getName()).append('(');
        for (int i = 0; i < m.getParameterCount(); i++) {
            text.append(i == 0 ? "" : " ").append(m.getParameterTypes()[i]);
        }
        text.append(')');
        for (Class<?> kind : m.getExceptionTypes()) {
            text.append(' ').append(kind.getSimpleName());
        }
        return text.toString();
    }

    private void nothingElseIsSeen(Class<?> c) {
        boolean whole = c == DetourLoom.class;
        int held = 0;
        for (Field f : c.getDeclaredFields()) {
            int is = f.getModifiers();
            held += Modifier.isStatic(is) ? 0 : 1;
            check.tell(!whole || Modifier.isPrivate(is), f + " can be seen");
            check.tell(!Modifier.isStatic(is) || Modifier.isFinal(is), f + " is static and not final");
        }
        check.tell(held <= 20, c + " has " + held + " fields");
        for (Method m : c.getDeclaredMethods()) {
            boolean open = Modifier.isPublic(m.getModifiers());
            check.tell(!whole || open || Modifier.isPrivate(m.getModifiers()), m + " can be seen");
            check.tell(whole && open || !faceNames.contains(m.getName()), m + " has a name of the face");
            check.tell(m.getParameterCount() <= 7, m + " takes too many");
        }
    }

    private void classInside(Class<?> c) {
        int is = c.getModifiers();
        check.tell(Modifier.isStatic(is), c + " is not static");
        check.tell(!Modifier.isPublic(is) && !Modifier.isProtected(is), c + " can be seen");
    }

    /** All calls of a run share one room, so the dearest one must not fill it. */
    private void callsMakeNoObjects() {
        DetourLoom loom = Looms.full();
        loom.digest();
        long before = bytesMade();
        for (int i = 0; i < 400; i++) {
            loom.digest();
        }
        long made = bytesMade() - before;
        // One object a call would be 6,400 bytes; the measuring itself makes some.
        check.tell(made < 4000, "400 digests made " + made + " bytes");
    }

    private static long bytesMade() {
        java.lang.management.ThreadMXBean bean = java.lang.management.ManagementFactory.getThreadMXBean();
        return ((com.sun.management.ThreadMXBean) bean).getThreadAllocatedBytes(Thread.currentThread().getId());
    }
}
