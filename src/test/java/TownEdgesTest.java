import java.util.function.Consumer;
import java.util.function.Supplier;

/** The edges of promises 1 to 8: the least and the greatest, nothing there yet, all places taken, two faults. */
public final class TownEdgesTest {
    private static final Supplier<ChicoryRoasters> EMPTY = ChicoryRoasters::new;
    private static final Supplier<ChicoryRoasters> BUSY = Towns::busy;
    private static final Supplier<ChicoryRoasters> FULL = Towns::full;

    private TownEdgesTest() {
    }

    public static void main(String[] args) {
        promise1NothingThereYet();
        promise2LeastAndGreatestBed();
        promise2GrowsOutOf0To9();
        promise2MostOutOf1To99();
        promise2FourBeds();
        promise2WrongBedWhileThereAreFour();
        promise3LeastAndGreatestDrum();
        promise3HoldsOutOf1To40();
        promise3HeatOutOf0To9();
        promise3FourDrums();
        promise3WrongDrumWhileThereAreFour();
        promise4LeastAndGreatestSmuggler();
        promise4WayOutOf2To14();
        promise4CargoOutOf1To30();
        promise4FourSmugglers();
        promise4WrongSmugglerWhileThereAreFour();
        promise5LeastAndGreatestCard();
        promise5AllottedOutOf1To9();
        promise5PickyOutOf0To10();
        promise5TenCards();
        promise5WrongCardWhileThereAreTen();
        promise6LeastAndGreatestPatrol();
        promise6PatrolOutOf0To127();
        promise7LeastAndGreatestShare();
        promise7ShareOutOf0To10();
        promise8LeastAndGreatestHeat();
        promise8NoSuchDrum();
        promise8HeatOutOf0To9();
        promise8WrongHeatOfNoSuchDrum();
        Check.finish("TownEdgesTest");
    }

    /** The call is refused in an empty town, in one with room left and in a full one. */
    private static void refusedInEach(String call, Consumer<ChicoryRoasters> made) {
        Refusal.due(Check.ARGUMENT, EMPTY, call + " in an empty town", made);
        Refusal.due(Check.ARGUMENT, BUSY, call + " in a busy town", made);
        Refusal.due(Check.ARGUMENT, FULL, call + " in a full town", made);
    }

    /** "Creates a town without beds, drums, smugglers and cards, on the day 0." */
    private static void promise1NothingThereYet() {
        ChicoryRoasters town = new ChicoryRoasters();
        int[] counts = {0, 0, 0, 0, 0, 0, 0, 5, 0};
        for (int what = 0; what <= 8; what++) {
            Check.due("count(" + what + ") of a new town", town.count(what), counts[what]);
        }
        for (int what = 1; what <= 6; what++) {
            Check.due("foresee(60, " + what + ") of a new town", town.foresee(60, what), 0);
        }
        Check.due("advise(28) of a new town", town.advise(28), 0);
        Check.dueDouble("mean() of a new town", town.mean(), 0.0);
        Refusal.due(Check.INDEX, EMPTY, "about(0, 0) without beds", x -> x.about(0, 0));
        Refusal.due(Check.INDEX, EMPTY, "dig(0, 1) without beds", x -> x.dig(0, 1));
        Refusal.due(Check.INDEX, EMPTY, "roast(0, 0) without drums", x -> x.roast(0, 0));
        Refusal.due(Check.INDEX, EMPTY, "ready(0) without drums", x -> x.ready(0));
        Refusal.due(Check.INDEX, EMPTY, "load(0, 0, 1) without drums", x -> x.load(0, 0, 1));
        Refusal.due(Check.INDEX, EMPTY, "take(0) without drums", x -> x.take(0));
        Refusal.due(Check.INDEX, EMPTY, "setHeat(0, 0) without drums", x -> x.setHeat(0, 0));
        Refusal.due(Check.INDEX, EMPTY, "told(0, 0) without smugglers", x -> x.told(0, 0));
        Refusal.due(Check.INDEX, EMPTY, "send(0) without smugglers", x -> x.send(0));
        Refusal.due(Check.INDEX, EMPTY, "caught(0, 0) without smugglers", x -> x.caught(0, 0));
        Refusal.due(Check.INDEX, EMPTY, "ration(0, 0) without cards", x -> x.ration(0, 0));
    }

    /** "grows so many a day, 0 to 9, and has at most so many, 1 to 99"; roots: "none at first". */
    private static void promise2LeastAndGreatestBed() {
        ChicoryRoasters town = new ChicoryRoasters();
        int[][] beds = {{0, 1}, {9, 99}, {0, 99}, {9, 1}};
        for (int i = 0; i < 4; i++) {
            Check.due("bed(" + beds[i][0] + ", " + beds[i][1] + ")", town.bed(beds[i][0], beds[i][1]), i);
            Check.due("about(" + i + ", 0)", town.about(i, 0), beds[i][0]);
            Check.due("about(" + i + ", 1)", town.about(i, 1), beds[i][1]);
            Check.due("about(" + i + ", 2)", town.about(i, 2), 0);
        }
    }

    /** "Throws IllegalArgumentException if grows is not 0 to 9". */
    private static void promise2GrowsOutOf0To9() {
        for (int wrong : Refusal.beyond(0, 9)) {
            refusedInEach("bed(" + wrong + ", 1)", town -> town.bed(wrong, 1));
            refusedInEach("bed(" + wrong + ", 99)", town -> town.bed(wrong, 99));
        }
    }

    /** "... or most is not 1 to 99". */
    private static void promise2MostOutOf1To99() {
        for (int wrong : Refusal.beyond(1, 99)) {
            refusedInEach("bed(0, " + wrong + ")", town -> town.bed(0, wrong));
            refusedInEach("bed(9, " + wrong + ")", town -> town.bed(9, wrong));
        }
    }

    /** "Throws IllegalStateException if there are 4": three leave room for one, four for none. */
    private static void promise2FourBeds() {
        ChicoryRoasters town = new ChicoryRoasters();
        for (int i = 0; i < 4; i++) {
            Check.due("bed(1, 1) with " + i + " there", town.bed(1, 1), i);
        }
        Refusal.due(Check.STATE, FULL, "bed(0, 1) with 4 there", full -> full.bed(0, 1));
        Refusal.due(Check.STATE, FULL, "bed(9, 99) with 4 there", full -> full.bed(9, 99));
    }

    /** "If several exceptions apply, the one that is named first is thrown." */
    private static void promise2WrongBedWhileThereAreFour() {
        Refusal.due(Check.ARGUMENT, FULL, "bed(10, 1) with 4 there", town -> town.bed(10, 1));
        Refusal.due(Check.ARGUMENT, FULL, "bed(0, 0) with 4 there", town -> town.bed(0, 0));
        Refusal.due(Check.ARGUMENT, FULL, "bed(-1, 100) with 4 there", town -> town.bed(-1, 100));
    }

    /** "each holds so much, 1 to 40, has a heat, 0 to 9, and is empty (at first)". */
    private static void promise3LeastAndGreatestDrum() {
        ChicoryRoasters town = new ChicoryRoasters();
        int[][] drums = {{1, 0}, {40, 9}, {1, 9}, {40, 0}};
        for (int i = 0; i < 4; i++) {
            Check.due("drum(" + drums[i][0] + ", " + drums[i][1] + ")", town.drum(drums[i][0], drums[i][1]), i);
            int[] fresh = {drums[i][0], drums[i][1], -1, 0, 0, 0};
            for (int what = 0; what <= 5; what++) {
                Check.due("roast(" + i + ", " + what + ")", town.roast(i, what), fresh[what]);
            }
        }
    }

    /** "Throws IllegalArgumentException if holds is not 1 to 40". */
    private static void promise3HoldsOutOf1To40() {
        for (int wrong : Refusal.beyond(1, 40)) {
            refusedInEach("drum(" + wrong + ", 0)", town -> town.drum(wrong, 0));
            refusedInEach("drum(" + wrong + ", 9)", town -> town.drum(wrong, 9));
        }
    }

    /** "... or heat is not 0 to 9". */
    private static void promise3HeatOutOf0To9() {
        for (int wrong : Refusal.beyond(0, 9)) {
            refusedInEach("drum(1, " + wrong + ")", town -> town.drum(1, wrong));
            refusedInEach("drum(40, " + wrong + ")", town -> town.drum(40, wrong));
        }
    }

    /** "Throws IllegalStateException if there are 4": three leave room for one, four for none. */
    private static void promise3FourDrums() {
        ChicoryRoasters town = new ChicoryRoasters();
        for (int i = 0; i < 4; i++) {
            Check.due("drum(1, 1) with " + i + " there", town.drum(1, 1), i);
        }
        Refusal.due(Check.STATE, FULL, "drum(1, 0) with 4 there", full -> full.drum(1, 0));
        Refusal.due(Check.STATE, FULL, "drum(40, 9) with 4 there", full -> full.drum(40, 9));
    }

    /** "If several exceptions apply, the one that is named first is thrown." */
    private static void promise3WrongDrumWhileThereAreFour() {
        Refusal.due(Check.ARGUMENT, FULL, "drum(0, 0) with 4 there", town -> town.drum(0, 0));
        Refusal.due(Check.ARGUMENT, FULL, "drum(1, 10) with 4 there", town -> town.drum(1, 10));
        Refusal.due(Check.ARGUMENT, FULL, "drum(41, -1) with 4 there", town -> town.drum(41, -1));
    }

    /** "a way of so many days, 2 to 14, and brings so many beans, 1 to 30; and is home (at first)". */
    private static void promise4LeastAndGreatestSmuggler() {
        ChicoryRoasters town = new ChicoryRoasters();
        int[][] smugglers = {{2, 1}, {14, 30}, {2, 30}, {14, 1}};
        for (int i = 0; i < 4; i++) {
            int way = smugglers[i][0];
            int cargo = smugglers[i][1];
            Check.due("smuggler(" + way + ", " + cargo + ")", town.smuggler(way, cargo), i);
            int[] fresh = {way, cargo, 0, 0, 0};
            for (int what = 0; what <= 4; what++) {
                Check.due("told(" + i + ", " + what + ")", town.told(i, what), fresh[what]);
            }
        }
    }

    /** "Throws IllegalArgumentException if way is not 2 to 14". */
    private static void promise4WayOutOf2To14() {
        for (int wrong : Refusal.beyond(2, 14)) {
            refusedInEach("smuggler(" + wrong + ", 1)", town -> town.smuggler(wrong, 1));
            refusedInEach("smuggler(" + wrong + ", 30)", town -> town.smuggler(wrong, 30));
        }
        // The ways of no day at all must not slip through either.
        refusedInEach("smuggler(0, 1)", town -> town.smuggler(0, 1));
    }

    /** "... or cargo is not 1 to 30". */
    private static void promise4CargoOutOf1To30() {
        for (int wrong : Refusal.beyond(1, 30)) {
            refusedInEach("smuggler(2, " + wrong + ")", town -> town.smuggler(2, wrong));
            refusedInEach("smuggler(14, " + wrong + ")", town -> town.smuggler(14, wrong));
        }
    }

    /** "Throws IllegalStateException if there are 4": three leave room for one, four for none. */
    private static void promise4FourSmugglers() {
        ChicoryRoasters town = new ChicoryRoasters();
        for (int i = 0; i < 4; i++) {
            Check.due("smuggler(3, 1) with " + i + " there", town.smuggler(3, 1), i);
        }
        Refusal.due(Check.STATE, FULL, "smuggler(2, 1) with 4 there", full -> full.smuggler(2, 1));
        Refusal.due(Check.STATE, FULL, "smuggler(14, 30) with 4 there", full -> full.smuggler(14, 30));
    }

    /** "If several exceptions apply, the one that is named first is thrown." */
    private static void promise4WrongSmugglerWhileThereAreFour() {
        Refusal.due(Check.ARGUMENT, FULL, "smuggler(1, 1) with 4 there", town -> town.smuggler(1, 1));
        Refusal.due(Check.ARGUMENT, FULL, "smuggler(2, 31) with 4 there", town -> town.smuggler(2, 31));
        Refusal.due(Check.ARGUMENT, FULL, "smuggler(15, 0) with 4 there", town -> town.smuggler(15, 0));
    }

    /** "so many portions allotted for a week, 1 to 9, all of which are left at first; its holder is picky, 0 to 10". */
    private static void promise5LeastAndGreatestCard() {
        ChicoryRoasters town = new ChicoryRoasters();
        int[][] cards = {{1, 0}, {9, 10}, {1, 10}, {9, 0}};
        for (int i = 0; i < 4; i++) {
            int allotted = cards[i][0];
            int picky = cards[i][1];
            Check.due("card(" + allotted + ", " + picky + ")", town.card(allotted, picky), i);
            int[] fresh = {allotted, picky, allotted, 0, 0};
            for (int what = 0; what <= 4; what++) {
                Check.due("ration(" + i + ", " + what + ")", town.ration(i, what), fresh[what]);
            }
        }
    }

    /** "Throws IllegalArgumentException if allotted is not 1 to 9". */
    private static void promise5AllottedOutOf1To9() {
        for (int wrong : Refusal.beyond(1, 9)) {
            refusedInEach("card(" + wrong + ", 0)", town -> town.card(wrong, 0));
            refusedInEach("card(" + wrong + ", 10)", town -> town.card(wrong, 10));
        }
    }

    /** "... or picky is not 0 to 10". */
    private static void promise5PickyOutOf0To10() {
        for (int wrong : Refusal.beyond(0, 10)) {
            refusedInEach("card(1, " + wrong + ")", town -> town.card(1, wrong));
            refusedInEach("card(9, " + wrong + ")", town -> town.card(9, wrong));
        }
    }

    /** "Throws IllegalStateException if there are 10": nine leave room for one, ten for none. */
    private static void promise5TenCards() {
        ChicoryRoasters town = new ChicoryRoasters();
        for (int i = 0; i < 10; i++) {
            Check.due("card(1, 1) with " + i + " there", town.card(1, 1), i);
        }
        Refusal.due(Check.STATE, FULL, "card(1, 0) with 10 there", full -> full.card(1, 0));
        Refusal.due(Check.STATE, FULL, "card(9, 10) with 10 there", full -> full.card(9, 10));
    }

    /** "If several exceptions apply, the one that is named first is thrown." */
    private static void promise5WrongCardWhileThereAreTen() {
        Refusal.due(Check.ARGUMENT, FULL, "card(0, 0) with 10 there", town -> town.card(0, 0));
        Refusal.due(Check.ARGUMENT, FULL, "card(1, 11) with 10 there", town -> town.card(1, 11));
        Refusal.due(Check.ARGUMENT, FULL, "card(10, -1) with 10 there", town -> town.card(10, -1));
    }

    /** Patrol: "none, at first"; "Returns those before." */
    private static void promise6LeastAndGreatestPatrol() {
        ChicoryRoasters town = new ChicoryRoasters();
        Check.due("setPatrol(0) on a new town", town.setPatrol(0), 0);
        Check.due("setPatrol(127)", town.setPatrol(127), 0);
        Check.due("count(8)", town.count(8), 127);
        Check.due("setPatrol(126)", town.setPatrol(126), 127);
        Check.due("setPatrol(1)", town.setPatrol(1), 126);
        Check.due("setPatrol(0)", town.setPatrol(0), 1);
        Check.due("count(8)", town.count(8), 0);
    }

    /** "Throws IllegalArgumentException if days is not 0 to 127". */
    private static void promise6PatrolOutOf0To127() {
        for (int wrong : Refusal.beyond(0, 127)) {
            refusedInEach("setPatrol(" + wrong + ")", town -> town.setPatrol(wrong));
        }
    }

    /** "as many as the share, 0 to 10 (5, at first)"; "Returns the one before." */
    private static void promise7LeastAndGreatestShare() {
        ChicoryRoasters town = new ChicoryRoasters();
        Check.due("setShare(0) on a new town", town.setShare(0), 5);
        Check.due("count(7)", town.count(7), 0);
        Check.due("setShare(10)", town.setShare(10), 0);
        Check.due("count(7)", town.count(7), 10);
        Check.due("setShare(10) once more", town.setShare(10), 10);
    }

    /** "Throws IllegalArgumentException if share is not 0 to 10". */
    private static void promise7ShareOutOf0To10() {
        for (int wrong : Refusal.beyond(0, 10)) {
            refusedInEach("setShare(" + wrong + ")", town -> town.setShare(wrong));
        }
    }

    /** "its heat from now on"; "Returns the one before." */
    private static void promise8LeastAndGreatestHeat() {
        ChicoryRoasters town = Towns.full();
        Check.due("setHeat(0, 0) of the first drum", town.setHeat(0, 0), 8);
        Check.due("setHeat(0, 9)", town.setHeat(0, 9), 0);
        Check.due("roast(0, 1)", town.roast(0, 1), 9);
        Check.due("setHeat(3, 0) of the last drum", town.setHeat(3, 0), 9);
        Check.due("roast(3, 1)", town.roast(3, 1), 0);
    }

    /** "Throws IndexOutOfBoundsException if there is no such drum". */
    private static void promise8NoSuchDrum() {
        for (int wrong : Refusal.beyond(0, 1)) {
            Refusal.due(Check.INDEX, BUSY, "setHeat(" + wrong + ", 0) of 2", town -> town.setHeat(wrong, 0));
        }
        for (int wrong : Refusal.beyond(0, 3)) {
            Refusal.due(Check.INDEX, FULL, "setHeat(" + wrong + ", 9) of 4", town -> town.setHeat(wrong, 9));
        }
    }

    /** "Throws IllegalArgumentException if heat is not 0 to 9". */
    private static void promise8HeatOutOf0To9() {
        for (int wrong : Refusal.beyond(0, 9)) {
            Refusal.due(Check.ARGUMENT, FULL, "setHeat(0, " + wrong + ")", town -> town.setHeat(0, wrong));
            Refusal.due(Check.ARGUMENT, FULL, "setHeat(3, " + wrong + ")", town -> town.setHeat(3, wrong));
        }
    }

    /** "If several exceptions apply, the one that is named first is thrown." */
    private static void promise8WrongHeatOfNoSuchDrum() {
        Refusal.due(Check.INDEX, EMPTY, "setHeat(0, 10) without drums", town -> town.setHeat(0, 10));
        Refusal.due(Check.INDEX, FULL, "setHeat(4, 10) of 4", town -> town.setHeat(4, 10));
        Refusal.due(Check.INDEX, FULL, "setHeat(-1, -1) of 4", town -> town.setHeat(-1, -1));
    }
}
