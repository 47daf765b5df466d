import java.util.function.Supplier;

/** The edges of promises 9 to 13: the least and the greatest, too much, too little, and two faults at once. */
public final class WorkEdgesTest {
    private static final Supplier<ChicoryRoasters> EMPTY = ChicoryRoasters::new;
    private static final Supplier<ChicoryRoasters> BUSY = Towns::busy;
    private static final Supplier<ChicoryRoasters> FULL = Towns::full;

    private WorkEdgesTest() {
    }

    public static void main(String[] args) {
        promise9LeastAndGreatestDig();
        promise9AllThatABedHas();
        promise9NoSuchBed();
        promise9ManyOutOf1To99();
        promise9BedHasFewer();
        promise9TwoFaultsAtOnce();
        promise10LeastAndGreatestGift();
        promise10KindNeither0Nor1();
        promise10ManyOutOf1To99();
        promise10TwoFaultsAtOnce();
        promise11LeastAndGreatestLoad();
        promise11AllThatTheStoreHas();
        promise11NoSuchDrum();
        promise11KindNeither0Nor1();
        promise11ManyOutOf1ToWhatTheDrumHolds();
        promise11DrumHasALoad();
        promise11StoreHasFewer();
        promise11TwoFaultsAtOnce();
        promise12LoadThatIsNotDoneOrBurnt();
        promise12NoSuchDrum();
        promise12EmptyDrum();
        promise13LeastAndGreatestWay();
        promise13NoSuchSmuggler();
        promise13NotHome();
        promise13HomeAgain();
        Check.finish("WorkEdgesTest");
    }

    private static ChicoryRoasters withFullBed() {
        ChicoryRoasters town = new ChicoryRoasters();
        town.bed(9, 99);
        town.pass(11);
        return town;
    }

    /** "many is not 1 to 99"; "Returns how many it has then." */
    private static void promise9LeastAndGreatestDig() {
        ChicoryRoasters one = withFullBed();
        Check.due("dig(0, 1) of 99", one.dig(0, 1), 98);
        Check.due("count(1)", one.count(1), 1);
        ChicoryRoasters all = withFullBed();
        Check.due("dig(0, 99) of 99", all.dig(0, 99), 0);
        Check.due("count(1)", all.count(1), 99);
        Check.due("about(0, 2)", all.about(0, 2), 0);
    }

    /** "Throws IllegalStateException if it has fewer": just as many are enough. */
    private static void promise9AllThatABedHas() {
        ChicoryRoasters town = Towns.full();
        Check.due("dig(2, 3) of 4", town.dig(2, 3), 1);
        Check.due("dig(2, 1) of 1", town.dig(2, 1), 0);
        Check.due("dig(3, 15) of 15", town.dig(3, 15), 0);
        Check.due("count(1)", town.count(1), 49 + 4 + 15);
        town.pass(1);
        Check.due("about(2, 2) a day later", town.about(2, 2), 3);
    }

    private static void promise9NoSuchBed() {
        Refusal.due(Check.INDEX, EMPTY, "dig(0, 1) without beds", town -> town.dig(0, 1));
        for (int wrong : Refusal.beyond(0, 1)) {
            Refusal.due(Check.INDEX, BUSY, "dig(" + wrong + ", 1) of 2 beds", town -> town.dig(wrong, 1));
        }
        for (int wrong : Refusal.beyond(0, 3)) {
            Refusal.due(Check.INDEX, FULL, "dig(" + wrong + ", 1) of 4 beds", town -> town.dig(wrong, 1));
        }
    }

    private static void promise9ManyOutOf1To99() {
        for (int wrong : Refusal.beyond(1, 99)) {
            Refusal.due(Check.ARGUMENT, WorkEdgesTest::withFullBed, "dig(0, " + wrong + ") of 99",
                    town -> town.dig(0, wrong));
        }
    }

    private static void promise9BedHasFewer() {
        Refusal.due(Check.STATE, FULL, "dig(0, 1) of none", town -> town.dig(0, 1));
        Refusal.due(Check.STATE, FULL, "dig(0, 99) of none", town -> town.dig(0, 99));
        Refusal.due(Check.STATE, FULL, "dig(1, 28) of 27", town -> town.dig(1, 28));
        Refusal.due(Check.STATE, FULL, "dig(2, 5) of 4", town -> town.dig(2, 5));
        Refusal.due(Check.STATE, FULL, "dig(3, 16) of 15", town -> town.dig(3, 16));
    }

    /** "If several exceptions apply, the one that is named first is thrown." */
    private static void promise9TwoFaultsAtOnce() {
        Refusal.due(Check.INDEX, FULL, "dig(4, 0) of 4 beds", town -> town.dig(4, 0));
        Refusal.due(Check.INDEX, FULL, "dig(-1, 100) of 4 beds", town -> town.dig(-1, 100));
        Refusal.due(Check.ARGUMENT, FULL, "dig(0, 100) of none", town -> town.dig(0, 100));
        Refusal.due(Check.ARGUMENT, FULL, "dig(2, 100) of 4", town -> town.dig(2, 100));
    }

    /** "kind is not 0 or 1", "many is not 1 to 99"; "Returns how many of these it has then." */
    private static void promise10LeastAndGreatestGift() {
        ChicoryRoasters town = new ChicoryRoasters();
        Check.due("give(0, 1)", town.give(0, 1), 1);
        Check.due("give(1, 99)", town.give(1, 99), 99);
        Check.due("give(0, 99)", town.give(0, 99), 100);
        Check.due("give(1, 1)", town.give(1, 1), 100);
        Check.due("count(1)", town.count(1), 100);
        Check.due("count(2)", town.count(2), 100);
        Check.due("count(3)", town.count(3), 0);
        Check.due("count(4)", town.count(4), 0);
    }

    private static void promise10KindNeither0Nor1() {
        for (int wrong : Refusal.beyond(0, 1)) {
            Refusal.due(Check.INDEX, EMPTY, "give(" + wrong + ", 1)", town -> town.give(wrong, 1));
            Refusal.due(Check.INDEX, FULL, "give(" + wrong + ", 99)", town -> town.give(wrong, 99));
        }
    }

    private static void promise10ManyOutOf1To99() {
        for (int wrong : Refusal.beyond(1, 99)) {
            Refusal.due(Check.ARGUMENT, EMPTY, "give(0, " + wrong + ")", town -> town.give(0, wrong));
            Refusal.due(Check.ARGUMENT, FULL, "give(1, " + wrong + ")", town -> town.give(1, wrong));
        }
    }

    /** "If several exceptions apply, the one that is named first is thrown." */
    private static void promise10TwoFaultsAtOnce() {
        Refusal.due(Check.INDEX, FULL, "give(2, 0)", town -> town.give(2, 0));
        Refusal.due(Check.INDEX, FULL, "give(-1, 100)", town -> town.give(-1, 100));
    }

    private static ChicoryRoasters withDrumsAndStore() {
        ChicoryRoasters town = new ChicoryRoasters();
        town.drum(40, 1);
        town.drum(1, 1);
        town.give(0, 41);
        town.give(1, 40);
        return town;
    }

    private static void dueLoad(ChicoryRoasters town, int drum, int kind, int much) {
        int[] load = {kind, much, 0, 0};
        for (int what = 2; what <= 5; what++) {
            Check.due("roast(" + drum + ", " + what + ")", town.roast(drum, what), load[what - 2]);
        }
    }

    /** "many is not 1 to what the drum holds"; "Returns how many of these are left in the store." */
    private static void promise11LeastAndGreatestLoad() {
        ChicoryRoasters town = withDrumsAndStore();
        Check.due("load(0, 0, 40) into 40", town.load(0, 0, 40), 1);
        dueLoad(town, 0, 0, 40);
        Check.due("load(1, 1, 1) into 1", town.load(1, 1, 1), 39);
        dueLoad(town, 1, 1, 1);
        ChicoryRoasters little = withDrumsAndStore();
        Check.due("load(0, 0, 1) into 40", little.load(0, 0, 1), 40);
        dueLoad(little, 0, 0, 1);
    }

    /** "Throws IllegalStateException if ... the store has fewer": just as many are enough. */
    private static void promise11AllThatTheStoreHas() {
        ChicoryRoasters town = withDrumsAndStore();
        Check.due("load(0, 1, 40) of 40", town.load(0, 1, 40), 0);
        Check.due("count(2)", town.count(2), 0);
        Check.due("count(1)", town.count(1), 41);
        ChicoryRoasters one = new ChicoryRoasters();
        one.drum(40, 1);
        one.give(0, 1);
        Check.due("load(0, 0, 1) of 1", one.load(0, 0, 1), 0);
    }

    private static void promise11NoSuchDrum() {
        Refusal.due(Check.INDEX, EMPTY, "load(0, 0, 1) without drums", town -> town.load(0, 0, 1));
        for (int wrong : Refusal.beyond(0, 1)) {
            Refusal.due(Check.INDEX, WorkEdgesTest::withDrumsAndStore, "load(" + wrong + ", 0, 1) of 2 drums",
                    town -> town.load(wrong, 0, 1));
        }
        for (int wrong : Refusal.beyond(0, 3)) {
            Refusal.due(Check.INDEX, FULL, "load(" + wrong + ", 1, 1) of 4 drums", town -> town.load(wrong, 1, 1));
        }
    }

    private static void promise11KindNeither0Nor1() {
        for (int wrong : Refusal.beyond(0, 1)) {
            Refusal.due(Check.INDEX, FULL, "load(0, " + wrong + ", 1)", town -> town.load(0, wrong, 1));
        }
    }

    private static void promise11ManyOutOf1ToWhatTheDrumHolds() {
        for (int wrong : Refusal.beyond(1, 40)) {
            Refusal.due(Check.ARGUMENT, FULL, "load(0, 0, " + wrong + ") into 40", town -> town.load(0, 0, wrong));
        }
        for (int wrong : Refusal.beyond(1, 1)) {
            Refusal.due(Check.ARGUMENT, WorkEdgesTest::withDrumsAndStore, "load(1, 1, " + wrong + ") into 1",
                    town -> town.load(1, 1, wrong));
        }
    }

    private static void promise11DrumHasALoad() {
        Refusal.due(Check.STATE, FULL, "load(1, 0, 1) onto roots", town -> town.load(1, 0, 1));
        Refusal.due(Check.STATE, FULL, "load(1, 1, 10) onto roots", town -> town.load(1, 1, 10));
        Refusal.due(Check.STATE, FULL, "load(3, 1, 1) onto burnt beans", town -> town.load(3, 1, 1));
    }

    private static void promise11StoreHasFewer() {
        Supplier<ChicoryRoasters> scarce = () -> {
            ChicoryRoasters town = new ChicoryRoasters();
            town.drum(40, 1);
            town.give(0, 39);
            return town;
        };
        Refusal.due(Check.STATE, scarce, "load(0, 0, 40) of 39 roots", town -> town.load(0, 0, 40));
        Refusal.due(Check.STATE, scarce, "load(0, 1, 1) of no beans", town -> town.load(0, 1, 1));
        Refusal.due(Check.STATE, scarce, "load(0, 1, 40) of no beans", town -> town.load(0, 1, 40));
    }

    /** "If several exceptions apply, the one that is named first is thrown." */
    private static void promise11TwoFaultsAtOnce() {
        Refusal.due(Check.INDEX, FULL, "load(4, 2, 0)", town -> town.load(4, 2, 0));
        Refusal.due(Check.INDEX, FULL, "load(4, 0, 41)", town -> town.load(4, 0, 41));
        Refusal.due(Check.INDEX, FULL, "load(0, 2, 0)", town -> town.load(0, 2, 0));
        Refusal.due(Check.INDEX, FULL, "load(1, -1, 1) onto roots", town -> town.load(1, -1, 1));
        Refusal.due(Check.ARGUMENT, FULL, "load(1, 0, 11) onto roots", town -> town.load(1, 0, 11));
        Refusal.due(Check.ARGUMENT, FULL, "load(3, 1, 0) onto burnt beans", town -> town.load(3, 1, 0));
        Supplier<ChicoryRoasters> bare = () -> {
            ChicoryRoasters town = new ChicoryRoasters();
            town.drum(5, 1);
            return town;
        };
        Refusal.due(Check.ARGUMENT, bare, "load(0, 0, 6) into 5, of none", town -> town.load(0, 0, 6));
        Refusal.due(Check.STATE, bare, "load(0, 0, 5) into 5, of none", town -> town.load(0, 0, 5));
    }

    /** "Takes the load out of a drum, also one that is not done, or burnt". */
    private static void promise12LoadThatIsNotDoneOrBurnt() {
        ChicoryRoasters town = Towns.full();
        Check.due("take(1) at the level 9", town.take(1), 0);
        Check.due("take(3) of burnt beans", town.take(3), 0);
        Check.due("count(3)", town.count(3), 148);
        Check.due("count(4)", town.count(4), 242);
        Check.due("count(1): no roots come back", town.count(1), 49);
        Check.due("count(2): no beans come back", town.count(2), 54);
        Check.due("roast(1, 2)", town.roast(1, 2), -1);
        Check.due("roast(3, 2)", town.roast(3, 2), -1);
        Check.due("load(1, 0, 1)", town.load(1, 0, 1), 48);
        Check.due("take(1) on the day of the load", town.take(1), 0);
    }

    private static void promise12NoSuchDrum() {
        Refusal.due(Check.INDEX, EMPTY, "take(0) without drums", town -> town.take(0));
        for (int wrong : Refusal.beyond(0, 1)) {
            Refusal.due(Check.INDEX, BUSY, "take(" + wrong + ") of 2 drums", town -> town.take(wrong));
        }
        for (int wrong : Refusal.beyond(0, 3)) {
            Refusal.due(Check.INDEX, FULL, "take(" + wrong + ") of 4 drums", town -> town.take(wrong));
        }
    }

    /** "Throws IllegalStateException if it is empty": as it is new, and as its load was taken. */
    private static void promise12EmptyDrum() {
        Refusal.due(Check.STATE, WorkEdgesTest::withDrumsAndStore, "take(0) of a new drum", town -> town.take(0));
        Refusal.due(Check.STATE, FULL, "take(0) of an emptied drum", town -> town.take(0));
    }

    /** "One who is sent is away, with as many days left as the way has." */
    private static void promise13LeastAndGreatestWay() {
        ChicoryRoasters town = new ChicoryRoasters();
        town.smuggler(2, 1);
        town.smuggler(14, 1);
        int[] ways = {2, 14};
        for (int i = 0; i < 2; i++) {
            Check.due("send(" + i + ")", town.send(i), ways[i]);
            Check.due("told(" + i + ", 2)", town.told(i, 2), 1);
            Check.due("told(" + i + ", 3)", town.told(i, 3), ways[i]);
        }
        Check.due("count(2)", town.count(2), 0);
    }

    private static void promise13NoSuchSmuggler() {
        Refusal.due(Check.INDEX, EMPTY, "send(0) without smugglers", town -> town.send(0));
        for (int wrong : Refusal.beyond(0, 2)) {
            Refusal.due(Check.INDEX, BUSY, "send(" + wrong + ") of 3", town -> town.send(wrong));
        }
        for (int wrong : Refusal.beyond(0, 3)) {
            Refusal.due(Check.INDEX, FULL, "send(" + wrong + ") of 4", town -> town.send(wrong));
        }
    }

    private static ChicoryRoasters onTheLastDay(int patrol, int days) {
        ChicoryRoasters town = new ChicoryRoasters();
        town.smuggler(2, 1);
        town.setPatrol(patrol);
        town.send(0);
        if (days > 0) {
            town.pass(days);
        }
        return town;
    }

    /** "Throws IllegalStateException if this one is not home": from the sending to the last day away or held. */
    private static void promise13NotHome() {
        Refusal.due(Check.STATE, () -> onTheLastDay(0, 0), "send(0) of one just sent", town -> town.send(0));
        Refusal.due(Check.STATE, () -> onTheLastDay(0, 1), "send(0) with 1 day left", town -> town.send(0));
        Refusal.due(Check.STATE, () -> onTheLastDay(1, 1), "send(0) of one just held", town -> town.send(0));
        Refusal.due(Check.STATE, () -> onTheLastDay(1, 10), "send(0) held for 1 day more", town -> town.send(0));
        Refusal.due(Check.STATE, FULL, "send(1) of one away", town -> town.send(1));
        Refusal.due(Check.STATE, FULL, "send(2) of one held", town -> town.send(2));
    }

    /** One who has come home can be sent on that very day. */
    private static void promise13HomeAgain() {
        Check.due("send(0) behind the way", onTheLastDay(0, 2).send(0), 2);
        Check.due("send(0) behind the arrest", onTheLastDay(1, 11).send(0), 2);
    }
}
