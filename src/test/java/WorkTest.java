/** Promises 9 to 13: digging, giving, loading, taking out and sending. */
public final class WorkTest {
    private WorkTest() {
    }

    public static void main(String[] args) {
        promise9Dig();
        promise10Give();
        promise11Load();
        promise11LoadRefused();
        promise12Take();
        promise12TakeAtEachLevel();
        promise13Send();
        Check.finish("WorkTest");
    }

    private static void promise9Dig() {
        ChicoryRoasters town = new ChicoryRoasters();
        Check.thrown(town, "dig(0, 0) without beds", Check.INDEX, () -> town.dig(0, 0));
        town.bed(9, 99);
        town.bed(5, 20);
        Check.thrown(town, "dig(1, 1) of no roots", Check.STATE, () -> town.dig(1, 1));
        town.give(0, 50);
        town.pass(11);
        Check.due("dig(1, 3)", town.dig(1, 3), 17);
        Check.due("count(1)", town.count(1), 53);
        Check.due("about(1, 2)", town.about(1, 2), 17);
        Check.thrown(town, "dig(1, 18)", Check.STATE, () -> town.dig(1, 18));
        Check.due("dig(1, 17)", town.dig(1, 17), 0);
        Check.due("dig(0, 99)", town.dig(0, 99), 0);
        Check.due("count(1)", town.count(1), 169);
        Check.thrown(town, "dig(-1, 1)", Check.INDEX, () -> town.dig(-1, 1));
        Check.thrown(town, "dig(2, 1)", Check.INDEX, () -> town.dig(2, 1));
        Check.thrown(town, "dig(0, 0)", Check.ARGUMENT, () -> town.dig(0, 0));
        Check.thrown(town, "dig(0, -1)", Check.ARGUMENT, () -> town.dig(0, -1));
        Check.thrown(town, "dig(0, 100)", Check.ARGUMENT, () -> town.dig(0, 100));
        town.pass(1);
        Check.due("the bed grows on", town.about(0, 2), 9);
    }

    private static void promise10Give() {
        ChicoryRoasters town = new ChicoryRoasters();
        Check.due("give(0, 1)", town.give(0, 1), 1);
        Check.due("give(1, 99)", town.give(1, 99), 99);
        Check.due("give(0, 99)", town.give(0, 99), 100);
        Check.due("give(1, 5)", town.give(1, 5), 104);
        Check.due("count(1)", town.count(1), 100);
        Check.due("count(2)", town.count(2), 104);
        Check.thrown(town, "give(2, 1)", Check.INDEX, () -> town.give(2, 1));
        Check.thrown(town, "give(-1, 1)", Check.INDEX, () -> town.give(-1, 1));
        Check.thrown(town, "give(2, 0)", Check.INDEX, () -> town.give(2, 0));
        Check.thrown(town, "give(0, 0)", Check.ARGUMENT, () -> town.give(0, 0));
        Check.thrown(town, "give(1, 100)", Check.ARGUMENT, () -> town.give(1, 100));
        Check.thrown(town, "give(1, -5)", Check.ARGUMENT, () -> town.give(1, -5));
    }

    private static void promise11Load() {
        ChicoryRoasters town = new ChicoryRoasters();
        town.drum(20, 3);
        town.drum(5, 4);
        town.give(0, 30);
        town.give(1, 5);
        Check.due("load(0, 0, 20)", town.load(0, 0, 20), 10);
        Check.due("load(1, 1, 5)", town.load(1, 1, 5), 0);
        Check.due("count(1)", town.count(1), 10);
        Check.due("count(2)", town.count(2), 0);
        Check.due("roast(0, 2)", town.roast(0, 2), 0);
        Check.due("roast(0, 3)", town.roast(0, 3), 20);
        Check.due("roast(0, 4)", town.roast(0, 4), 0);
        Check.due("roast(1, 2)", town.roast(1, 2), 1);
        Check.due("roast(1, 3)", town.roast(1, 3), 5);
        town.pass(2);
        town.take(0);
        Check.due("load(0, 0, 1) of what is left", town.load(0, 0, 1), 9);
        Check.due("a new load begins at the level 0", town.roast(0, 4), 0);
    }

    private static void promise11LoadRefused() {
        ChicoryRoasters town = new ChicoryRoasters();
        Check.thrown(town, "load(0, 0, 0) without drums", Check.INDEX, () -> town.load(0, 0, 0));
        town.drum(5, 4);
        Check.thrown(town, "load(-1, 0, 1)", Check.INDEX, () -> town.load(-1, 0, 1));
        Check.thrown(town, "load(1, 0, 1)", Check.INDEX, () -> town.load(1, 0, 1));
        Check.thrown(town, "load(0, 2, 0)", Check.INDEX, () -> town.load(0, 2, 0));
        Check.thrown(town, "load(0, -1, 1)", Check.INDEX, () -> town.load(0, -1, 1));
        Check.thrown(town, "load(0, 0, 0)", Check.ARGUMENT, () -> town.load(0, 0, 0));
        Check.thrown(town, "load(0, 0, 6)", Check.ARGUMENT, () -> town.load(0, 0, 6));
        Check.thrown(town, "load(0, 0, 1) of nothing", Check.STATE, () -> town.load(0, 0, 1));
        town.give(0, 9);
        town.give(1, 2);
        Check.thrown(town, "load(0, 1, 3) of 2 beans", Check.STATE, () -> town.load(0, 1, 3));
        town.load(0, 1, 2);
        Check.thrown(town, "load(0, 0, 1) into a full drum", Check.STATE, () -> town.load(0, 0, 1));
        Check.thrown(town, "load(0, 0, 6) into a full drum", Check.ARGUMENT, () -> town.load(0, 0, 6));
    }

    private static void promise12Take() {
        ChicoryRoasters town = new ChicoryRoasters();
        Check.thrown(town, "take(0) without drums", Check.INDEX, () -> town.take(0));
        town.drum(10, 5);
        town.drum(7, 9);
        Check.thrown(town, "take(0) of nothing", Check.STATE, () -> town.take(0));
        Check.thrown(town, "take(-1)", Check.INDEX, () -> town.take(-1));
        Check.thrown(town, "take(2)", Check.INDEX, () -> town.take(2));
        town.give(0, 10);
        town.give(1, 7);
        town.load(0, 0, 10);
        town.load(1, 1, 7);
        town.pass(1);
        Check.due("take(1) of 7 beans at the level 9", town.take(1), 48);
        Check.due("count(4)", town.count(4), 48);
        Check.due("count(3)", town.count(3), 0);
        town.pass(2);
        Check.due("take(0) of 10 roots at the level 15", town.take(0), 45);
        Check.due("count(3)", town.count(3), 45);
        Check.due("count(4)", town.count(4), 48);
        Check.due("count(1)", town.count(1), 0);
        int[] empty = {10, 5, -1, 0, 0, 0};
        for (int what = 0; what < empty.length; what++) {
            Check.due("roast(0, " + what + ") of an emptied drum", town.roast(0, what), empty[what]);
        }
        Check.thrown(town, "take(0) once more", Check.STATE, () -> town.take(0));
    }

    /** What 5 roots and 5 beans yield at each level that can be reached with the heat 1. */
    private static void promise12TakeAtEachLevel() {
        int[] ofRoots = {0, 0, 0, 0, 0, 0, 0, 0, 0, 0, 0, 0, 30, 27, 25, 22, 20, 17, 15, 12, 10, 7, 5, 2, 0, 0};
        int[] ofBeans = {0, 0, 0, 0, 0, 0, 0, 0, 40, 34, 28, 22, 17, 11, 5, 0, 0};
        for (int level = 0; level < ofRoots.length; level++) {
            takeAt(0, level, ofRoots[level]);
        }
        for (int level = 0; level < ofBeans.length; level++) {
            takeAt(1, level, ofBeans[level]);
        }
    }

    private static void takeAt(int kind, int days, int want) {
        ChicoryRoasters town = new ChicoryRoasters();
        town.drum(5, 1);
        town.give(kind, 5);
        town.load(0, kind, 5);
        if (days > 0) {
            town.pass(days);
        }
        Check.due("roast(0, 5) of 5 of the kind " + kind + " behind " + days + " days", town.roast(0, 5), want);
        Check.due("take(0) of 5 of the kind " + kind + " behind " + days + " days", town.take(0), want);
        Check.due("count(" + (3 + kind) + ")", town.count(3 + kind), want);
        Check.due("count(" + (4 - kind) + ")", town.count(4 - kind), 0);
    }

    private static void promise13Send() {
        ChicoryRoasters town = new ChicoryRoasters();
        Check.thrown(town, "send(0) without smugglers", Check.INDEX, () -> town.send(0));
        town.smuggler(2, 5);
        town.smuggler(14, 6);
        Check.thrown(town, "send(-1)", Check.INDEX, () -> town.send(-1));
        Check.thrown(town, "send(2)", Check.INDEX, () -> town.send(2));
        Check.due("send(1)", town.send(1), 14);
        Check.due("told(1, 2)", town.told(1, 2), 1);
        Check.due("told(1, 3)", town.told(1, 3), 14);
        Check.due("told(0, 2)", town.told(0, 2), 0);
        Check.thrown(town, "send(1) while away", Check.STATE, () -> town.send(1));
        Check.due("send(0)", town.send(0), 2);
        town.pass(2);
        Check.due("send(0) once more", town.send(0), 2);
        town.setPatrol(127);
        town.pass(1);
        Check.due("told(0, 2)", town.told(0, 2), 2);
        Check.thrown(town, "send(0) while held", Check.STATE, () -> town.send(0));
        town.pass(10);
        Check.due("send(0) behind the arrest", town.send(0), 2);
    }
}
