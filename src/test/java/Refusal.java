import java.util.function.Consumer;
import java.util.function.Supplier;

/**
 * A call that is refused, on a town of its own: all that the town tells is the same before and behind it, and the
 * days that follow are those of a town on which it was not tried.
 */
final class Refusal {
    /** The ways in which a number may be far off. */
    static final int[] FAR_OFF = {Integer.MIN_VALUE, Integer.MIN_VALUE + 1, Integer.MAX_VALUE - 1, Integer.MAX_VALUE};

    private Refusal() {
    }

    static void due(Class<? extends RuntimeException> want, Supplier<ChicoryRoasters> start, String call,
            Consumer<ChicoryRoasters> made) {
        ChicoryRoasters town = start.get();
        String before = Tellings.of(town);
        Class<?> got = null;
        try {
            made.accept(town);
        } catch (RuntimeException e) {
            got = e.getClass();
        }
        Check.verdict(got == want, call + " threw " + got + ", due is " + want);
        String behind = Tellings.of(town);
        Check.verdict(behind.equals(before), call + " changed\n" + before + "to\n" + behind);
        ChicoryRoasters twin = start.get();
        town.pass(9);
        twin.pass(9);
        Check.due("digest 9 days behind " + call, town.digest(), twin.digest());
    }

    /** The numbers just beyond the least and the greatest, and those far off. */
    static int[] beyond(int least, int greatest) {
        int[] wrong = new int[FAR_OFF.length + 2];
        wrong[0] = least - 1;
        wrong[1] = greatest + 1;
        System.arraycopy(FAR_OFF, 0, wrong, 2, FAR_OFF.length);
        return wrong;
    }
}
