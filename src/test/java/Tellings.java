import java.util.function.IntFunction;

/** All that a town tells, as a text, to see whether a call changed anything: at most 150 calls on the town. */
final class Tellings {
    private static final int PLACES = 4;
    private static final int CARDS = 10;

    private Tellings() {
    }

    static String of(ChicoryRoasters town) {
        StringBuilder told = new StringBuilder();
        row(told, "count", 0, 8, town::count);
        for (int i = 0; i < PLACES; i++) {
            int number = i;
            row(told, "about " + i, 0, 2, what -> town.about(number, what));
            row(told, "roast " + i, 0, 5, what -> town.roast(number, what));
            row(told, "told " + i, 0, 4, what -> town.told(number, what));
        }
        for (int i = 0; i < CARDS; i++) {
            int number = i;
            row(told, "ration " + i, 0, 4, what -> town.ration(number, what));
        }
        row(told, "ready", 0, PLACES - 1, town::ready);
        row(told, "foresee", 1, 6, what -> town.foresee(8, what));
        row(told, "caught", 0, PLACES - 1, number -> town.caught(number, 1));
        row(told, "advise", 7, 7, town::advise);
        row(told, "mean", 0, 0, what -> town.mean());
        row(told, "digest", 0, 0, what -> town.digest());
        return told.toString();
    }

    /** An index that is refused ends its row: there is nothing behind it. */
    private static void row(StringBuilder told, String name, int first, int last, IntFunction<Object> call) {
        told.append(name);
        boolean more = true;
        for (int i = first; i <= last && more; i++) {
            String answer = answer(call, i);
            told.append(' ').append(answer);
            more = !answer.equals("IndexOutOfBoundsException");
        }
        told.append('\n');
    }

    private static String answer(IntFunction<Object> call, int argument) {
        try {
            return "" + call.apply(argument);
        } catch (RuntimeException e) {
            return e.getClass().getSimpleName();
        }
    }
}
