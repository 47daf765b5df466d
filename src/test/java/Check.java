/** Counts what held and prints what did not; each test's main method ends through finish. */
final class Check {
    interface Call {
        void make();
    }

    static final Class<IllegalArgumentException> ARGUMENT = IllegalArgumentException.class;
    static final Class<IllegalStateException> STATE = IllegalStateException.class;
    static final Class<IndexOutOfBoundsException> INDEX = IndexOutOfBoundsException.class;

    private static int passed = 0;
    private static int failed = 0;

    private Check() {
    }

    static void due(String call, long got, long want) {
        verdict(got == want, call + " answered " + got + ", due is " + want);
    }

    static void dueDouble(String call, double got, double want) {
        verdict(got == want, call + " answered " + got + ", due is " + want);
    }

    static void dueBoolean(String call, boolean got, boolean want) {
        verdict(got == want, call + " answered " + got + ", due is " + want);
    }

    /** The call throws this very class, and the town is as it was. */
    static void thrown(ChicoryRoasters town, String call, Class<? extends RuntimeException> want, Call made) {
        long before = town.digest();
        Class<?> got = null;
        try {
            made.make();
        } catch (RuntimeException e) {
            got = e.getClass();
        }
        verdict(got == want, call + " threw " + got + ", due is " + want);
        due("digest behind " + call, town.digest(), before);
    }

    static void verdict(boolean held, String complaint) {
        if (held) {
            passed++;
        } else {
            failed++;
            System.out.println(complaint);
        }
    }

    static void finish(String test) {
        System.out.println(test + ": " + passed + " passed, " + failed + " failed");
        if (failed > 0 || passed == 0) {
            System.exit(1);
        }
    }
}
