/** Promises 1 to 8: a new town, and what is put into it or set. */
public final class SettingUpTest {
    private SettingUpTest() {
    }

    public static void main(String[] args) {
        promise1NewTown();
        promise2Bed();
        promise3Drum();
        promise4Smuggler();
        promise5Card();
        promise6SetPatrol();
        promise7SetShare();
        promise8SetHeat();
        Check.finish("SettingUpTest");
    }

    private static void promise1NewTown() {
        ChicoryRoasters town = new ChicoryRoasters();
        int[] counts = {0, 0, 0, 0, 0, 0, 0, 5, 0};
        for (int what = 0; what < counts.length; what++) {
            Check.due("count(" + what + ") of a new town", town.count(what), counts[what]);
        }
        Check.thrown(town, "about(0, 0) without beds", Check.INDEX, () -> town.about(0, 0));
        Check.thrown(town, "roast(0, 0) without drums", Check.INDEX, () -> town.roast(0, 0));
        Check.thrown(town, "told(0, 0) without smugglers", Check.INDEX, () -> town.told(0, 0));
        Check.thrown(town, "ration(0, 0) without cards", Check.INDEX, () -> town.ration(0, 0));
        ChicoryRoasters other = new ChicoryRoasters();
        other.bed(1, 1);
        Check.thrown(town, "about(0, 0) with a bed elsewhere", Check.INDEX, () -> town.about(0, 0));
    }

    private static void promise2Bed() {
        ChicoryRoasters town = new ChicoryRoasters();
        wrongBed(town, -1, 5, Check.ARGUMENT);
        wrongBed(town, 10, 5, Check.ARGUMENT);
        wrongBed(town, 5, 0, Check.ARGUMENT);
        wrongBed(town, 5, 100, Check.ARGUMENT);
        wrongBed(town, Integer.MIN_VALUE, Integer.MAX_VALUE, Check.ARGUMENT);
        Check.due("bed(0, 1)", town.bed(0, 1), 0);
        Check.due("bed(9, 99)", town.bed(9, 99), 1);
        Check.due("bed(4, 50)", town.bed(4, 50), 2);
        Check.due("bed(1, 2)", town.bed(1, 2), 3);
        wrongBed(town, 1, 2, Check.STATE);
        wrongBed(town, 10, 2, Check.ARGUMENT);
        wrongBed(town, 1, 0, Check.ARGUMENT);
        Check.due("about(1, 0)", town.about(1, 0), 9);
        Check.due("about(1, 1)", town.about(1, 1), 99);
        Check.due("about(1, 2)", town.about(1, 2), 0);
        Check.due("about(3, 1)", town.about(3, 1), 2);
    }

    private static void wrongBed(ChicoryRoasters town, int grows, int most, Class<? extends RuntimeException> want) {
        Check.thrown(town, "bed(" + grows + ", " + most + ")", want, () -> town.bed(grows, most));
    }

    private static void promise3Drum() {
        ChicoryRoasters town = new ChicoryRoasters();
        wrongDrum(town, 0, 5, Check.ARGUMENT);
        wrongDrum(town, 41, 5, Check.ARGUMENT);
        wrongDrum(town, 5, -1, Check.ARGUMENT);
        wrongDrum(town, 5, 10, Check.ARGUMENT);
        Check.due("drum(1, 0)", town.drum(1, 0), 0);
        Check.due("drum(40, 9)", town.drum(40, 9), 1);
        Check.due("drum(20, 3)", town.drum(20, 3), 2);
        Check.due("drum(7, 4)", town.drum(7, 4), 3);
        wrongDrum(town, 7, 4, Check.STATE);
        wrongDrum(town, 0, 4, Check.ARGUMENT);
        wrongDrum(town, 7, 10, Check.ARGUMENT);
        int[] fresh = {40, 9, -1, 0, 0, 0};
        for (int what = 0; what < fresh.length; what++) {
            Check.due("roast(1, " + what + ") of a new drum", town.roast(1, what), fresh[what]);
        }
    }

    private static void wrongDrum(ChicoryRoasters town, int holds, int heat, Class<? extends RuntimeException> want) {
        Check.thrown(town, "drum(" + holds + ", " + heat + ")", want, () -> town.drum(holds, heat));
    }

    private static void promise4Smuggler() {
        ChicoryRoasters town = new ChicoryRoasters();
        wrongSmuggler(town, 1, 5, Check.ARGUMENT);
        wrongSmuggler(town, 15, 5, Check.ARGUMENT);
        wrongSmuggler(town, 5, 0, Check.ARGUMENT);
        wrongSmuggler(town, 5, 31, Check.ARGUMENT);
        Check.due("smuggler(2, 1)", town.smuggler(2, 1), 0);
        Check.due("smuggler(14, 30)", town.smuggler(14, 30), 1);
        Check.due("smuggler(5, 7)", town.smuggler(5, 7), 2);
        Check.due("smuggler(3, 8)", town.smuggler(3, 8), 3);
        wrongSmuggler(town, 3, 8, Check.STATE);
        wrongSmuggler(town, 15, 8, Check.ARGUMENT);
        wrongSmuggler(town, 3, 0, Check.ARGUMENT);
        int[] fresh = {14, 30, 0, 0, 0};
        for (int what = 0; what < fresh.length; what++) {
            Check.due("told(1, " + what + ") of a new smuggler", town.told(1, what), fresh[what]);
        }
    }

    private static void wrongSmuggler(ChicoryRoasters town, int way, int cargo,
            Class<? extends RuntimeException> want) {
        Check.thrown(town, "smuggler(" + way + ", " + cargo + ")", want, () -> town.smuggler(way, cargo));
    }

    private static void promise5Card() {
        ChicoryRoasters town = new ChicoryRoasters();
        wrongCard(town, 0, 5, Check.ARGUMENT);
        wrongCard(town, 10, 5, Check.ARGUMENT);
        wrongCard(town, 5, -1, Check.ARGUMENT);
        wrongCard(town, 5, 11, Check.ARGUMENT);
        Check.due("card(1, 0)", town.card(1, 0), 0);
        Check.due("card(9, 10)", town.card(9, 10), 1);
        for (int number = 2; number < 10; number++) {
            Check.due("card(3, 2)", town.card(3, 2), number);
        }
        wrongCard(town, 3, 2, Check.STATE);
        wrongCard(town, 10, 2, Check.ARGUMENT);
        wrongCard(town, 3, 11, Check.ARGUMENT);
        int[] fresh = {9, 10, 9, 0, 0};
        for (int what = 0; what < fresh.length; what++) {
            Check.due("ration(1, " + what + ") of a new card", town.ration(1, what), fresh[what]);
        }
        Check.due("ration(9, 2)", town.ration(9, 2), 3);
    }

    private static void wrongCard(ChicoryRoasters town, int allotted, int picky,
            Class<? extends RuntimeException> want) {
        Check.thrown(town, "card(" + allotted + ", " + picky + ")", want, () -> town.card(allotted, picky));
    }

    private static void promise6SetPatrol() {
        ChicoryRoasters town = new ChicoryRoasters();
        Check.due("setPatrol(127)", town.setPatrol(127), 0);
        Check.due("setPatrol(10)", town.setPatrol(10), 127);
        Check.thrown(town, "setPatrol(128)", Check.ARGUMENT, () -> town.setPatrol(128));
        Check.thrown(town, "setPatrol(-1)", Check.ARGUMENT, () -> town.setPatrol(-1));
        Check.due("count(8)", town.count(8), 10);
        Check.due("setPatrol(0)", town.setPatrol(0), 10);
        Check.due("count(8)", town.count(8), 0);
    }

    private static void promise7SetShare() {
        ChicoryRoasters town = new ChicoryRoasters();
        Check.due("setShare(10)", town.setShare(10), 5);
        Check.due("setShare(0)", town.setShare(0), 10);
        Check.thrown(town, "setShare(11)", Check.ARGUMENT, () -> town.setShare(11));
        Check.thrown(town, "setShare(-1)", Check.ARGUMENT, () -> town.setShare(-1));
        Check.due("count(7)", town.count(7), 0);
        Check.due("setShare(3)", town.setShare(3), 0);
        Check.due("count(7)", town.count(7), 3);
    }

    private static void promise8SetHeat() {
        ChicoryRoasters town = new ChicoryRoasters();
        Check.thrown(town, "setHeat(0, 10) without drums", Check.INDEX, () -> town.setHeat(0, 10));
        town.drum(10, 3);
        town.drum(10, 7);
        Check.due("setHeat(1, 9)", town.setHeat(1, 9), 7);
        Check.due("setHeat(1, 0)", town.setHeat(1, 0), 9);
        Check.due("setHeat(0, 4)", town.setHeat(0, 4), 3);
        Check.due("roast(0, 1)", town.roast(0, 1), 4);
        Check.due("roast(1, 1)", town.roast(1, 1), 0);
        Check.thrown(town, "setHeat(-1, 1)", Check.INDEX, () -> town.setHeat(-1, 1));
        Check.thrown(town, "setHeat(2, 1)", Check.INDEX, () -> town.setHeat(2, 1));
        Check.thrown(town, "setHeat(2, 10)", Check.INDEX, () -> town.setHeat(2, 10));
        Check.thrown(town, "setHeat(0, 10)", Check.ARGUMENT, () -> town.setHeat(0, 10));
        Check.thrown(town, "setHeat(0, -1)", Check.ARGUMENT, () -> town.setHeat(0, -1));
        town.give(0, 5);
        town.load(0, 0, 5);
        town.pass(1);
        town.setHeat(0, 9);
        Check.due("the level does not change with the heat", town.roast(0, 4), 4);
        town.pass(1);
        Check.due("the new heat counts from the next day on", town.roast(0, 4), 13);
    }
}
