/** Towns that several tests begin with. */
final class Towns {
    private Towns() {
    }

    /**
     * A town on the day 7 (a weekday 0), without beds and cards, whose store has 6 parts of chicory for each
     * of the roots and 8 parts of coffee for each of the beans (both 0 to 40); its two drums are empty.
     */
    static ChicoryRoasters withRoasted(int roots, int beans) {
        ChicoryRoasters town = new ChicoryRoasters();
        town.drum(40, 6);
        town.drum(40, 4);
        putIn(town, 0, 0, roots);
        putIn(town, 1, 1, beans);
        town.pass(2);
        takeOut(town, 0);
        takeOut(town, 1);
        town.pass(5);
        return town;
    }

    private static void putIn(ChicoryRoasters town, int drum, int kind, int many) {
        if (many > 0) {
            town.give(kind, many);
            town.load(drum, kind, many);
        }
    }

    private static void takeOut(ChicoryRoasters town, int drum) {
        if (town.roast(drum, 2) != -1) {
            town.take(drum);
        }
    }

    /** A town with something of everything under way, on the day 3. */
    static ChicoryRoasters busy() {
        ChicoryRoasters town = new ChicoryRoasters();
        town.bed(4, 30);
        town.bed(2, 5);
        town.drum(40, 6);
        town.drum(10, 2);
        town.smuggler(4, 12);
        town.smuggler(7, 20);
        town.smuggler(6, 9);
        town.card(5, 0);
        town.card(3, 4);
        town.setPatrol(2);
        town.give(0, 70);
        town.give(1, 30);
        town.load(0, 0, 40);
        town.load(1, 1, 8);
        town.send(0);
        town.send(1);
        town.pass(2);
        town.take(0);
        town.load(0, 1, 20);
        town.pass(1);
        return town;
    }

    /**
     * A town with all places taken, on the day 3: the beds 0 to 3 have 0, 27, 4 (all that it can) and 15 roots; the
     * drums 0 and 2 are empty, 1 has 10 roots at the level 9, 3 has 5 burnt beans; the smugglers 0 and 3 are home,
     * 1 is away, 2 is held; the store has 49 roots and 54 beans, 148 parts of chicory and 242 of coffee.
     */
    static ChicoryRoasters full() {
        ChicoryRoasters town = new ChicoryRoasters();
        int[][] beds = {{0, 1}, {9, 99}, {3, 4}, {5, 50}};
        int[][] drums = {{40, 8}, {10, 3}, {40, 7}, {5, 9}};
        int[][] smugglers = {{2, 30}, {14, 1}, {4, 12}, {7, 20}};
        for (int i = 0; i < 4; i++) {
            town.bed(beds[i][0], beds[i][1]);
            town.drum(drums[i][0], drums[i][1]);
            town.smuggler(smugglers[i][0], smugglers[i][1]);
        }
        for (int i = 0; i < 10; i++) {
            town.card(1 + i % 9, i);
        }
        startWork(town);
        return town;
    }

    private static void startWork(ChicoryRoasters town) {
        town.give(0, 99);
        town.give(1, 99);
        town.load(0, 1, 40);
        town.load(1, 0, 10);
        town.load(2, 0, 40);
        town.load(3, 1, 5);
        town.setPatrol(2);
        town.send(1);
        town.send(2);
        town.pass(1);
        town.take(0);
        town.pass(1);
        town.take(2);
        town.setShare(6);
        town.pass(1);
    }

    /**
     * A town without beds, smugglers and cards, on a weekday 0, whose store has just these parts of chicory (0 to
     * 40) and of coffee.
     */
    static ChicoryRoasters withParts(int chicory, int coffee) {
        ChicoryRoasters town = new ChicoryRoasters();
        town.drum(40, 2);
        // Behind 11 days, at the level 22, each of the roots yields a part.
        putIn(town, 0, 0, chicory);
        town.pass(11);
        takeOut(town, 0);
        town.pass(3);
        // Behind 7 days, at the level 14, up to 6 beans yield a part each; more would yield more.
        for (int left = coffee; left > 0; left -= 6) {
            putIn(town, 0, 1, Math.min(left, 6));
            town.pass(7);
            takeOut(town, 0);
        }
        return town;
    }

    /** The checksum of a town, computed from what it tells. */
    static long checksum(ChicoryRoasters town, int beds, int drums, int smugglers, int cards) {
        long d = 1723;
        for (int what = 0; what <= 8; what++) {
            d = d * 31 + town.count(what);
        }
        for (int i = 0; i < beds; i++) {
            for (int what = 0; what <= 2; what++) {
                d = d * 31 + town.about(i, what);
            }
        }
        for (int i = 0; i < drums; i++) {
            for (int what = 0; what <= 5; what++) {
                d = d * 31 + town.roast(i, what);
            }
        }
        for (int i = 0; i < smugglers; i++) {
            for (int what = 0; what <= 4; what++) {
                d = d * 31 + town.told(i, what);
            }
        }
        for (int i = 0; i < cards; i++) {
            for (int what = 0; what <= 4; what++) {
                d = d * 31 + town.ration(i, what);
            }
        }
        return d;
    }
}
