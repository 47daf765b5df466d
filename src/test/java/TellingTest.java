/** Promises 14 to 18: what there is. (How it comes about is tested with the days.) */
public final class TellingTest {
    private TellingTest() {
    }

    public static void main(String[] args) {
        promise14About();
        promise15Roast();
        promise16Told();
        promise17Ration();
        promise18Count();
        Check.finish("TellingTest");
    }

    private static void promise14About() {
        ChicoryRoasters town = Towns.busy();
        dueRow("about(0, .)", new int[] {town.about(0, 0), town.about(0, 1), town.about(0, 2)}, 4, 30, 12);
        dueRow("about(1, .)", new int[] {town.about(1, 0), town.about(1, 1), town.about(1, 2)}, 2, 5, 5);
        for (int wrong : new int[] {-1, 3, Integer.MIN_VALUE, Integer.MAX_VALUE}) {
            Check.thrown(town, "about(0, " + wrong + ")", Check.INDEX, () -> town.about(0, wrong));
        }
        for (int wrong : new int[] {-1, 2, 4, Integer.MIN_VALUE, Integer.MAX_VALUE}) {
            Check.thrown(town, "about(" + wrong + ", 0)", Check.INDEX, () -> town.about(wrong, 0));
        }
    }

    private static void promise15Roast() {
        ChicoryRoasters town = Towns.busy();
        int[] first = new int[6];
        int[] second = new int[6];
        for (int what = 0; what < 6; what++) {
            first[what] = town.roast(0, what);
            second[what] = town.roast(1, what);
        }
        dueRow("roast(0, .)", first, 40, 6, 1, 20, 6, 0);
        dueRow("roast(1, .)", second, 10, 2, 1, 8, 6, 0);
        town.pass(1);
        Check.due("roast(0, 5) of 20 beans at the level 12", town.roast(0, 5), 68);
        Check.due("roast(1, 5) of 8 beans at the level 8", town.roast(1, 5), 64);
        for (int wrong : new int[] {-1, 6, Integer.MIN_VALUE, Integer.MAX_VALUE}) {
            Check.thrown(town, "roast(0, " + wrong + ")", Check.INDEX, () -> town.roast(0, wrong));
        }
        for (int wrong : new int[] {-1, 2, 4, Integer.MIN_VALUE, Integer.MAX_VALUE}) {
            Check.thrown(town, "roast(" + wrong + ", 0)", Check.INDEX, () -> town.roast(wrong, 0));
        }
    }

    private static void promise16Told() {
        ChicoryRoasters town = Towns.busy();
        int[][] wants = {{4, 12, 2, 9, 1}, {7, 20, 1, 4, 0}, {6, 9, 0, 0, 0}};
        for (int smuggler = 0; smuggler < wants.length; smuggler++) {
            int[] got = new int[5];
            for (int what = 0; what < 5; what++) {
                got[what] = town.told(smuggler, what);
            }
            dueRow("told(" + smuggler + ", .)", got, wants[smuggler]);
        }
        for (int wrong : new int[] {-1, 5, Integer.MIN_VALUE, Integer.MAX_VALUE}) {
            Check.thrown(town, "told(0, " + wrong + ")", Check.INDEX, () -> town.told(0, wrong));
        }
        for (int wrong : new int[] {-1, 3, 4, Integer.MIN_VALUE, Integer.MAX_VALUE}) {
            Check.thrown(town, "told(" + wrong + ", 0)", Check.INDEX, () -> town.told(wrong, 0));
        }
    }

    private static void promise17Ration() {
        ChicoryRoasters town = Towns.busy();
        int[][] wants = {{5, 0, 3, 2, 0}, {3, 4, 3, 0, 1}};
        for (int card = 0; card < wants.length; card++) {
            int[] got = new int[5];
            for (int what = 0; what < 5; what++) {
                got[what] = town.ration(card, what);
            }
            dueRow("ration(" + card + ", .)", got, wants[card]);
        }
        for (int wrong : new int[] {-1, 5, Integer.MIN_VALUE, Integer.MAX_VALUE}) {
            Check.thrown(town, "ration(0, " + wrong + ")", Check.INDEX, () -> town.ration(0, wrong));
        }
        for (int wrong : new int[] {-1, 2, 10, Integer.MIN_VALUE, Integer.MAX_VALUE}) {
            Check.thrown(town, "ration(" + wrong + ", 0)", Check.INDEX, () -> town.ration(wrong, 0));
        }
    }

    private static void promise18Count() {
        ChicoryRoasters town = Towns.busy();
        int[] got = new int[9];
        for (int what = 0; what < 9; what++) {
            got[what] = town.count(what);
        }
        dueRow("count(.)", got, 3, 30, 2, 220, 0, 2, 2, 5, 2);
        for (int wrong : new int[] {-1, 9, Integer.MIN_VALUE, Integer.MAX_VALUE}) {
            Check.thrown(town, "count(" + wrong + ")", Check.INDEX, () -> town.count(wrong));
        }
    }

    private static void dueRow(String calls, int[] got, int... want) {
        for (int what = 0; what < want.length; what++) {
            Check.due(calls + " at " + what, got[what], want[what]);
        }
    }
}
