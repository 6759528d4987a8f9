/** Counts and prints the answers that are not as due. */
final class Check {
    interface Call {
        void run();
    }

    private final String name;
    private int asked;
    private int wrong;

    Check(String name) {
        this.name = name;
    }

    void due(String what, long got, long want) {
        tell(got == want, what + " answered " + got + ", due is " + want);
    }

    void due(String what, boolean got, boolean want) {
        tell(got == want, what + " answered " + got + ", due is " + want);
    }

    void dueDouble(String what, double got, double want) {
        tell(got == want, what + " answered " + got + ", due is " + want);
    }

    /** The call throws exactly this kind, no kind below it, and leaves the loom as it was. */
    void dueThrow(String what, DetourLoom loom, Class<? extends RuntimeException> kind, Call call) {
        long before = loom.digest();
        RuntimeException thrown = null;
        try {
            call.run();
        } catch (RuntimeException e) {
            thrown = e;
        }
        Class<?> got = thrown == null ? null : thrown.getClass();
        tell(got == kind, what + " threw " + got + ", due is " + kind);
        tell(loom.digest() == before, what + " changed something");
    }

    void tell(boolean right, String line) {
        asked++;
        if (!right) {
            wrong++;
            System.out.println(name + ": " + line);
        }
    }

    void end() {
        System.out.println(name + ": " + (asked - wrong) + " of " + asked + " answers as due");
        if (wrong > 0 || asked == 0) {
            System.exit(1);
        }
    }
}
