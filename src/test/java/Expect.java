import java.util.function.Supplier;

/** Counts the calls that answer as is due, and prints those that do not. */
final class Expect {
    private final String name;
    private int passed = 0;
    private int failed = 0;

    Expect(String name) {
        this.name = name;
    }

    /** Compares by equals, so that 1 and 1L, or 0.5 and 0.5f, differ: the type is promised too. */
    void is(String call, Object want, Supplier<Object> asked) {
        Object got;
        try {
            got = asked.get();
        } catch (RuntimeException thrown) {
            got = thrown.getClass();
        }
        if (want.equals(got)) {
            passed++;
        } else {
            failed++;
            System.out.println(name + ": " + call + " answered " + got + ", due is " + want);
        }
    }

    void close() {
        System.out.println(name + ": " + passed + " passed, " + failed + " failed");
        if (failed > 0 || passed == 0) {
            System.exit(1);
        }
    }
}
