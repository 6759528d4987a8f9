import java.util.function.Consumer;
import java.util.function.Supplier;

/** Counts and prints the answers that are not as due. */
final class Check {
    interface Call {
        void run();
    }

    private final String name;
    private String sentence = "";
    private int asked;
    private int wrong;

    Check(String name) {
        this.name = name;
    }

    /** What follows is checked for these words of the document, which stand at this place of it. */
    void sentence(String place, String words) {
        sentence = place + " \"" + words + "\": ";
    }

    void due(String what, long got, long want) {
        tell(got == want, what + " answered " + got + ", due is " + want);
    }

    void due(String what, boolean got, boolean want) {
        tell(got == want, what + " answered " + got + ", due is " + want);
    }

    void dueDouble(String what, double got, double want) {
        tell(got == want, what + " answered " + got + ", due is " + want);
    }

    /** The call throws exactly this kind, no kind below it, and leaves the loom as it was. */
    void dueThrow(String what, DetourLoom loom, Class<? extends RuntimeException> kind, Call call) {
        long before = loom.digest();
        RuntimeException thrown = null;
        try {
            call.run();
        } catch (RuntimeException e) {
            thrown = e;
        }
        Class<?> got = thrown == null ? null : thrown.getClass();
        tell(got == kind, what + " threw " + got + ", due is " + kind);
        tell(loom.digest() == before, what + " changed something");
    }

    /**
     * The call throws exactly this kind, and the loom answers and goes on as one that never got the
     * call. Each look is at looms of its own, for a look at a full one takes some 400 calls.
     */
    void refused(String what, Supplier<DetourLoom> made, Class<? extends RuntimeException> kind,
            Consumer<DetourLoom> call) {
        for (int later = 0; later < 3; later++) {
            DetourLoom loom = made.get();
            Class<?> got = thrownBy(loom, call);
            tell(got == kind, what + " threw " + got + ", due is " + kind);
            String then = Looms.goOn(loom, later) + Looms.answers(loom);
            DetourLoom left = made.get();
            String want = Looms.goOn(left, later) + Looms.answers(left);
            tell(then.equals(want), what + " changed something, as Looms.goOn " + later + " shows");
        }
    }

    /** The call is taken: it throws nothing. */
    void taken(String what, DetourLoom loom, Consumer<DetourLoom> call) {
        Class<?> got = thrownBy(loom, call);
        tell(got == null, what + " threw " + got + ", due is none");
    }

    private static Class<?> thrownBy(DetourLoom loom, Consumer<DetourLoom> call) {
        try {
            call.accept(loom);
            return null;
        } catch (RuntimeException e) {
            return e.getClass();
        }
    }

    void tell(boolean right, String line) {
        asked++;
        if (!right) {
            wrong++;
            System.out.println(name + ": " + sentence + line);
        }
    }

    void end() {
        System.out.println(name + ": " + (asked - wrong) + " of " + asked + " answers as due");
        if (wrong > 0 || asked == 0) {
            System.exit(1);
        }
    }
}
