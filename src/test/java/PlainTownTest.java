/** Runs of 512 calls, ordinary and wrong ones, on a town and on a PlainTown, which answer alike. */
public final class PlainTownTest {
    private static final int RUNS = 1500;
    private static final int CALLS = 512;

    private static final String[] NAMES = {
        "bed", "drum", "smuggler", "card", "setPatrol", "setShare", "setHeat", "dig", "give", "load", "take", "send",
        "about", "roast", "told", "ration", "count", "pass", "foresee", "ready", "caught", "advise", "mean", "digest",
    };
    /** How often each call comes, as those have it that keep a town going. */
    private static final int[] WEIGHTS = {
        2, 2, 2, 3, 3, 6, 3, 6, 10, 16, 12, 10, 2, 3, 3, 3, 4, 24, 6, 4, 4, 4, 2, 4,
    };

    /** Where the answers part, the rest of the run tells nothing more. */
    private static boolean alike = true;
    private static long seed = 1;

    private PlainTownTest() {
    }

    public static void main(String[] args) {
        for (int run = 0; run < RUNS; run++) {
            seed = run * 7919L + 17;
            alike = true;
            run(run);
        }
        Check.finish("PlainTownTest");
    }

    private static void run(int run) {
        ChicoryRoasters town = new ChicoryRoasters();
        PlainTown plain = new PlainTown();
        int pace = 1 + next(12);
        for (int call = 0; call < CALLS / 2 && alike; call++) {
            String name = NAMES[weighted()];
            int a = argument(name, 0, pace);
            int b = argument(name, 1, pace);
            int c = argument(name, 2, pace);
            String told = "run " + run + ", call " + call + ": " + name + "(" + a + ", " + b + ", " + c + ")";
            compare(told, answer(town, name, a, b, c), plain.answer(name, a, b, c));
            compare("digest behind " + told, "" + town.digest(), plain.answer("digest", 0, 0, 0));
        }
    }

    private static void compare(String call, String got, String want) {
        alike = alike && got.equals(want);
        Check.verdict(got.equals(want), call + " answered " + got + ", due is " + want);
    }

    /** A number below the bound, from a sequence that is the same in every run of this test. */
    private static int next(int bound) {
        seed = seed * 6364136223846793005L + 1442695040888963407L;
        return (int) Long.remainderUnsigned(seed >>> 33, bound);
    }

    private static int weighted() {
        int sum = 0;
        for (int weight : WEIGHTS) {
            sum += weight;
        }
        int left = next(sum);
        int call = 0;
        while (left >= WEIGHTS[call]) {
            left -= WEIGHTS[call];
            call++;
        }
        return call;
    }

    /** Mostly an argument that fits, at times one at an edge, just beyond it or far off. */
    private static int argument(String name, int place, int pace) {
        int[] range = range(name, place, pace);
        int dice = next(60);
        if (dice == 0) {
            return range[0] - 1;
        }
        if (dice == 1) {
            return range[1] + 1;
        }
        if (dice == 2) {
            return next(2) == 0 ? Integer.MIN_VALUE + next(3) : Integer.MAX_VALUE - next(3);
        }
        if (dice < 8) {
            return range[dice % 2];
        }
        return range[0] + next(range[1] - range[0] + 1);
    }

    private static int[] range(String name, int place, int pace) {
        switch (name + place) {
            case "bed0", "drum1", "setHeat1":
                return new int[] {0, 9};
            case "bed1", "give1":
                return new int[] {1, 99};
            case "dig1":
                return new int[] {1, 20};
            case "drum0", "load2":
                return new int[] {1, 40};
            case "smuggler0":
                return new int[] {2, 14};
            case "smuggler1":
                return new int[] {1, 30};
            case "card0":
                return new int[] {1, 9};
            case "card1", "setShare0":
                return new int[] {0, 10};
            case "setPatrol0":
                return new int[] {0, 127};
            case "give0", "load1":
                return new int[] {0, 1};
            case "about1":
                return new int[] {0, 2};
            case "roast1":
                return new int[] {0, 5};
            case "told1", "ration1":
                return new int[] {0, 4};
            case "ration0":
                return new int[] {0, 9};
            case "count0":
                return new int[] {0, 8};
            case "pass0":
                return new int[] {1, pace};
            case "foresee0":
                return new int[] {1, 60};
            case "foresee1":
                return new int[] {1, 6};
            case "caught1":
                return new int[] {0, 60};
            case "advise0":
                return new int[] {1, 28};
            default:
                return new int[] {0, 3};
        }
    }

    private static String answer(ChicoryRoasters town, String name, int a, int b, int c) {
        try {
            return answerOf(town, name, a, b, c);
        } catch (RuntimeException e) {
            return e.getClass().getSimpleName();
        }
    }

    private static String answerOf(ChicoryRoasters town, String name, int a, int b, int c) {
        switch (name) {
            case "bed":
                return "" + town.bed(a, b);
            case "drum":
                return "" + town.drum(a, b);
            case "smuggler":
                return "" + town.smuggler(a, b);
            case "card":
                return "" + town.card(a, b);
            case "setPatrol":
                return "" + town.setPatrol(a);
            case "setShare":
                return "" + town.setShare(a);
            case "setHeat":
                return "" + town.setHeat(a, b);
            case "dig":
                return "" + town.dig(a, b);
            case "give":
                return "" + town.give(a, b);
            case "load":
                return "" + town.load(a, b, c);
            case "take":
                return "" + town.take(a);
            case "send":
                return "" + town.send(a);
            default:
                return asked(town, name, a, b);
        }
    }

    private static String asked(ChicoryRoasters town, String name, int a, int b) {
        switch (name) {
            case "about":
                return "" + town.about(a, b);
            case "roast":
                return "" + town.roast(a, b);
            case "told":
                return "" + town.told(a, b);
            case "ration":
                return "" + town.ration(a, b);
            case "count":
                return "" + town.count(a);
            case "pass":
                return "" + town.pass(a);
            case "foresee":
                return "" + town.foresee(a, b);
            case "ready":
                return "" + town.ready(a);
            case "caught":
                return "" + town.caught(a, b);
            case "advise":
                return "" + town.advise(a);
            case "mean":
                return "" + town.mean();
            default:
                return "" + town.digest();
        }
    }
}
