/** Towns that several tests begin with. */
final class Towns {
    private Towns() {
    }

    /**
     * A town on the day 7 (a weekday 0), without beds and cards, whose store has 6 parts of chicory for each
     * of the roots and 8 parts of coffee for each of the beans (both 0 to 40); its two drums are empty.
     */
    static ChicoryRoasters withRoasted(int roots, int beans) {
        ChicoryRoasters town = new ChicoryRoasters();
        town.drum(40, 6);
        town.drum(40, 4);
        putIn(town, 0, 0, roots);
        putIn(town, 1, 1, beans);
        town.pass(2);
        takeOut(town, 0);
        takeOut(town, 1);
        town.pass(5);
        return town;
    }

    private static void putIn(ChicoryRoasters town, int drum, int kind, int many) {
        if (many > 0) {
            town.give(kind, many);
            town.load(drum, kind, many);
        }
    }

    private static void takeOut(ChicoryRoasters town, int drum) {
        if (town.roast(drum, 2) != -1) {
            town.take(drum);
        }
    }

    /** A town with something of everything under way, on the day 3. */
    static ChicoryRoasters busy() {
        ChicoryRoasters town = new ChicoryRoasters();
        town.bed(4, 30);
        town.bed(2, 5);
        town.drum(40, 6);
        town.drum(10, 2);
        town.smuggler(4, 12);
        town.smuggler(7, 20);
        town.smuggler(6, 9);
        town.card(5, 0);
        town.card(3, 4);
        town.setPatrol(2);
        town.give(0, 70);
        town.give(1, 30);
        town.load(0, 0, 40);
        town.load(1, 1, 8);
        town.send(0);
        town.send(1);
        town.pass(2);
        town.take(0);
        town.load(0, 1, 20);
        town.pass(1);
        return town;
    }

    /** The checksum of a town, computed from what it tells. */
    static long checksum(ChicoryRoasters town, int beds, int drums, int smugglers, int cards) {
        long d = 1723;
        for (int what = 0; what <= 8; what++) {
            d = d * 31 + town.count(what);
        }
        for (int i = 0; i < beds; i++) {
            for (int what = 0; what <= 2; what++) {
                d = d * 31 + town.about(i, what);
            }
        }
        for (int i = 0; i < drums; i++) {
            for (int what = 0; what <= 5; what++) {
                d = d * 31 + town.roast(i, what);
            }
        }
        for (int i = 0; i < smugglers; i++) {
            for (int what = 0; what <= 4; what++) {
                d = d * 31 + town.told(i, what);
            }
        }
        for (int i = 0; i < cards; i++) {
            for (int what = 0; what <= 4; what++) {
                d = d * 31 + town.ration(i, what);
            }
        }
        return d;
    }
}
