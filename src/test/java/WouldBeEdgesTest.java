import java.math.BigInteger;
import java.util.ArrayList;
import java.util.List;
import java.util.function.Supplier;

/** The edges of promises 20 to 25: what would be, the mean, and the checksum as it wraps around. */
public final class WouldBeEdgesTest {
    private static final Supplier<ChicoryRoasters> EMPTY = ChicoryRoasters::new;
    private static final Supplier<ChicoryRoasters> BUSY = Towns::busy;
    private static final Supplier<ChicoryRoasters> FULL = Towns::full;

    private WouldBeEdgesTest() {
    }

    public static void main(String[] args) {
        promise20LeastAndGreatestDays();
        promise20OneDayShortOfTheBeans();
        promise20CaughtOnTheLastDayForeseen();
        promise20DaysOutOf1To60();
        promise20WhatOutOf1To6();
        promise20TwoFaultsAtOnce();
        promise20NothingIsChanged();
        promise21LeastAndGreatestHeat();
        promise21BestIsNow();
        promise21OneDayMakesItBurnt();
        promise21OfSeveralTheFewest();
        promise21Empty();
        promise21YieldsNothingOnAnyDay();
        promise21NoSuchDrum();
        promise22LeastAndGreatestDays();
        promise22LeastAndGreatestWay();
        promise22NoneAndAllDaysOfThePatrol();
        promise22NoSuchSmuggler();
        promise22DaysOutOf0To60();
        promise22NotHome();
        promise22TwoFaultsAtOnce();
        promise23LeastAndGreatestShare();
        promise23OfSeveralTheSmallest();
        promise23LastDayCountsAndNoneBehindIt();
        promise23DaysOutOf1To28();
        promise24WithoutAnyCards();
        promise24FewAndAllCards();
        promise25NothingThereYet();
        promise25WrapsAround();
        promise25InTheirOrder();
        Check.finish("WouldBeEdgesTest");
    }

    // ---- foresee

    /** "how many, 1 to 60": what is foreseen is what comes, behind 1 day and behind 60. */
    private static void promise20LeastAndGreatestDays() {
        for (int days : new int[] {1, 2, 59, 60}) {
            for (int what = 1; what <= 6; what++) {
                ChicoryRoasters lived = Towns.full();
                lived.pass(days);
                String call = "foresee(" + days + ", " + what + ")";
                Check.due(call + " of a full town", Towns.full().foresee(days, what), lived.count(what));
                Check.due(call + " of a new town", new ChicoryRoasters().foresee(days, what), 0);
            }
        }
    }

    private static void promise20OneDayShortOfTheBeans() {
        ChicoryRoasters town = new ChicoryRoasters();
        town.smuggler(14, 30);
        town.send(0);
        Check.due("foresee(13, 2)", town.foresee(13, 2), 0);
        Check.due("foresee(14, 2)", town.foresee(14, 2), 30);
        Check.due("foresee(60, 2): none is sent again", town.foresee(60, 2), 30);
    }

    /** The patrol is at the border in what is foreseen as in what comes: the beans are lost, and stay lost. */
    private static void promise20CaughtOnTheLastDayForeseen() {
        ChicoryRoasters town = new ChicoryRoasters();
        town.smuggler(3, 30);
        town.send(0);
        int[] patrols = {2, 125, 0, 127};
        int[] beans = {0, 30, 30, 0};
        for (int i = 0; i < 4; i++) {
            town.setPatrol(patrols[i]);
            Check.due("foresee(2, 2), patrol " + patrols[i], town.foresee(2, 2), 0);
            Check.due("foresee(3, 2), patrol " + patrols[i], town.foresee(3, 2), beans[i]);
            Check.due("foresee(60, 2), patrol " + patrols[i], town.foresee(60, 2), beans[i]);
        }
        Check.due("told(0, 4)", town.told(0, 4), 0);
    }

    private static void promise20DaysOutOf1To60() {
        for (int wrong : Refusal.beyond(1, 60)) {
            Refusal.due(Check.ARGUMENT, EMPTY, "foresee(" + wrong + ", 1)", town -> town.foresee(wrong, 1));
            Refusal.due(Check.ARGUMENT, FULL, "foresee(" + wrong + ", 6)", town -> town.foresee(wrong, 6));
        }
    }

    /** "1 to 6 as count() has it": not the day, the share or the patrol. */
    private static void promise20WhatOutOf1To6() {
        for (int wrong : Refusal.beyond(1, 6)) {
            Refusal.due(Check.INDEX, EMPTY, "foresee(1, " + wrong + ")", town -> town.foresee(1, wrong));
            Refusal.due(Check.INDEX, FULL, "foresee(60, " + wrong + ")", town -> town.foresee(60, wrong));
        }
        Refusal.due(Check.INDEX, FULL, "foresee(1, 8)", town -> town.foresee(1, 8));
    }

    /** "If several exceptions apply, the one that is named first is thrown": here that on the days. */
    private static void promise20TwoFaultsAtOnce() {
        Refusal.due(Check.ARGUMENT, FULL, "foresee(0, 0)", town -> town.foresee(0, 0));
        Refusal.due(Check.ARGUMENT, FULL, "foresee(61, 7)", town -> town.foresee(61, 7));
        Refusal.due(Check.ARGUMENT, EMPTY, "foresee(-1, -1)", town -> town.foresee(-1, -1));
    }

    private static void promise20NothingIsChanged() {
        ChicoryRoasters town = Towns.full();
        String before = Tellings.of(town);
        for (int what = 1; what <= 6; what++) {
            town.foresee(60, what);
        }
        Check.verdict(Tellings.of(town).equals(before), "foresee changed what the town tells");
    }

    // ---- ready

    private static ChicoryRoasters atLevel(int kind, int many, int level, int heat) {
        ChicoryRoasters town = new ChicoryRoasters();
        town.drum(40, 1);
        town.give(kind, many);
        town.load(0, kind, many);
        if (level > 0) {
            town.pass(level);
        }
        town.setHeat(0, heat);
        return town;
    }

    private static void dueReady(int kind, int many, int level, int heat, int want) {
        String load = "ready(0) of " + many + " of the kind " + kind + " at the level " + level + ", heat " + heat;
        Check.due(load, atLevel(kind, many, level, heat).ready(0), want);
    }

    /** The heats of the longest and of the shortest wait; with 0 it never ends. */
    private static void promise21LeastAndGreatestHeat() {
        dueReady(0, 40, 0, 0, -1);
        dueReady(0, 40, 0, 1, 12);
        dueReady(0, 40, 0, 9, 2);
        dueReady(1, 40, 0, 0, -1);
        dueReady(1, 40, 0, 1, 8);
        dueReady(1, 40, 0, 9, 1);
        dueReady(0, 40, 11, 0, -1);
        dueReady(0, 40, 11, 1, 1);
        dueReady(0, 40, 11, 9, 1);
    }

    /** "behind how many days, 0 to 60": a load that is done yields the most at once. */
    private static void promise21BestIsNow() {
        dueReady(0, 40, 12, 1, 0);
        dueReady(0, 40, 12, 9, 0);
        dueReady(0, 40, 13, 1, 0);
        dueReady(0, 40, 23, 1, 0);
        dueReady(1, 40, 8, 1, 0);
        dueReady(1, 40, 14, 9, 0);
    }

    /** Beans are done for 7 levels alone, so that a greater heat may go past them all. */
    private static void promise21OneDayMakesItBurnt() {
        dueReady(1, 40, 7, 7, 1);
        dueReady(1, 40, 7, 8, -1);
        dueReady(1, 40, 7, 9, -1);
        dueReady(1, 40, 6, 8, 1);
        dueReady(1, 40, 6, 9, -1);
        dueReady(1, 40, 5, 9, 1);
    }

    /** "of several the fewest": a load that stays as it is, and yields that are cut to the same. */
    private static void promise21OfSeveralTheFewest() {
        dueReady(0, 40, 12, 0, 0);
        dueReady(0, 40, 23, 0, 0);
        dueReady(1, 40, 14, 0, 0);
        // One root yields 5 parts at the level 13 as at 14.
        dueReady(0, 1, 13, 1, 0);
        dueReady(0, 1, 11, 2, 1);
    }

    /** "-1 if it is empty": new, and as its load was taken. */
    private static void promise21Empty() {
        ChicoryRoasters town = Towns.full();
        Check.due("ready(0) of an emptied drum", town.ready(0), -1);
        town.take(1);
        Check.due("ready(1) as its load was taken", town.ready(1), -1);
        ChicoryRoasters fresh = new ChicoryRoasters();
        fresh.drum(40, 9);
        Check.due("ready(0) of a new drum", fresh.ready(0), -1);
    }

    /** "-1 if it ... yields nothing on any of them": burnt, or so little that it is cut to nothing. */
    private static void promise21YieldsNothingOnAnyDay() {
        dueReady(0, 40, 24, 1, -1);
        dueReady(0, 40, 24, 0, -1);
        dueReady(1, 40, 15, 9, -1);
        dueReady(0, 1, 23, 1, -1);
        dueReady(0, 1, 23, 0, -1);
        dueReady(0, 2, 23, 0, 0);
        dueReady(1, 1, 14, 0, 0);
    }

    private static void promise21NoSuchDrum() {
        Refusal.due(Check.INDEX, EMPTY, "ready(0) without drums", town -> town.ready(0));
        for (int wrong : Refusal.beyond(0, 1)) {
            Refusal.due(Check.INDEX, BUSY, "ready(" + wrong + ") of 2 drums", town -> town.ready(wrong));
        }
        for (int wrong : Refusal.beyond(0, 3)) {
            Refusal.due(Check.INDEX, FULL, "ready(" + wrong + ") of 4 drums", town -> town.ready(wrong));
        }
    }

    // ---- caught

    /** "days is not 0 to 60": sent at once and behind 60 days, with the way that has the border on the first day. */
    private static void promise22LeastAndGreatestDays() {
        ChicoryRoasters town = new ChicoryRoasters();
        town.smuggler(2, 1);
        for (int weekday = 0; weekday < 7; weekday++) {
            town.setPatrol(1 << weekday);
            for (int days = 0; days <= 60; days++) {
                Check.dueBoolean("caught(0, " + days + ")", town.caught(0, days), days % 7 == weekday);
            }
        }
    }

    /** "way - way / 2 days behind the sending, that on which this one sets out counted". */
    private static void promise22LeastAndGreatestWay() {
        int[] ways = {2, 3, 13, 14};
        int[] borders = {0, 1, 6, 6};
        for (int i = 0; i < 4; i++) {
            for (int weekday = 0; weekday < 7; weekday++) {
                ChicoryRoasters town = new ChicoryRoasters();
                town.smuggler(ways[i], 1);
                town.setPatrol(1 << weekday);
                String way = " of the way " + ways[i];
                Check.dueBoolean("caught(0, 0)" + way, town.caught(0, 0), borders[i] == weekday);
                Check.dueBoolean("caught(0, 60)" + way, town.caught(0, 60), (borders[i] + 60) % 7 == weekday);
            }
        }
    }

    /** "with its days as they are": on none it is never at the border, on all it always is. */
    private static void promise22NoneAndAllDaysOfThePatrol() {
        ChicoryRoasters town = new ChicoryRoasters();
        town.smuggler(5, 1);
        for (int days = 0; days <= 60; days++) {
            town.setPatrol(0);
            Check.dueBoolean("caught(0, " + days + ") without a patrol", town.caught(0, days), false);
            town.setPatrol(127);
            Check.dueBoolean("caught(0, " + days + ") by one of each day", town.caught(0, days), true);
        }
    }

    private static void promise22NoSuchSmuggler() {
        Refusal.due(Check.INDEX, EMPTY, "caught(0, 0) of none", town -> town.caught(0, 0));
        for (int wrong : Refusal.beyond(0, 2)) {
            Refusal.due(Check.INDEX, BUSY, "caught(" + wrong + ", 0) of 3", town -> town.caught(wrong, 0));
        }
        for (int wrong : Refusal.beyond(0, 3)) {
            Refusal.due(Check.INDEX, FULL, "caught(" + wrong + ", 60) of 4", town -> town.caught(wrong, 60));
        }
    }

    private static void promise22DaysOutOf0To60() {
        for (int wrong : Refusal.beyond(0, 60)) {
            Refusal.due(Check.ARGUMENT, FULL, "caught(0, " + wrong + ")", town -> town.caught(0, wrong));
            Refusal.due(Check.ARGUMENT, FULL, "caught(3, " + wrong + ")", town -> town.caught(3, wrong));
        }
    }

    private static void promise22NotHome() {
        for (int days : new int[] {0, 60}) {
            Refusal.due(Check.STATE, FULL, "caught(1, " + days + ") of one away", town -> town.caught(1, days));
            Refusal.due(Check.STATE, FULL, "caught(2, " + days + ") of one held", town -> town.caught(2, days));
        }
        ChicoryRoasters town = Towns.full();
        town.pass(9);
        Check.dueBoolean("caught(2, 3) of one who is home again", town.caught(2, 3), false);
        Check.dueBoolean("caught(2, 2) of one who is home again", town.caught(2, 2), true);
    }

    /** "If several exceptions apply, the one that is named first is thrown." */
    private static void promise22TwoFaultsAtOnce() {
        Refusal.due(Check.INDEX, FULL, "caught(4, 61) of 4", town -> town.caught(4, 61));
        Refusal.due(Check.INDEX, EMPTY, "caught(0, -1) of none", town -> town.caught(0, -1));
        Refusal.due(Check.ARGUMENT, FULL, "caught(1, 61) of one away", town -> town.caught(1, 61));
        Refusal.due(Check.ARGUMENT, FULL, "caught(2, -1) of one held", town -> town.caught(2, -1));
    }

    // ---- advise

    /** "Returns this, 0 to 10": coffee alone asks for 10, chicory alone for none. */
    private static void promise23LeastAndGreatestShare() {
        for (int days : new int[] {1, 28}) {
            ChicoryRoasters coffee = Towns.withParts(0, 40);
            coffee.card(9, 0);
            Check.due("advise(" + days + ") with coffee alone", coffee.advise(days), 10);
            ChicoryRoasters chicory = Towns.withParts(40, 0);
            chicory.card(9, 0);
            Check.due("advise(" + days + ") with chicory alone", chicory.advise(days), 0);
            ChicoryRoasters picky = Towns.withParts(40, 40);
            picky.card(1, 10);
            Check.due("advise(" + days + ") for the most picky holder", picky.advise(days), 10);
        }
    }

    /** "of several the smallest", whatever the share is now; with nothing to serve it is 0. */
    private static void promise23OfSeveralTheSmallest() {
        ChicoryRoasters town = Towns.withParts(40, 40);
        town.card(2, 3);
        for (int share = 0; share <= 10; share++) {
            town.setShare(share);
            Check.due("advise(1) with the share " + share, town.advise(1), 3);
            Check.due("count(7) behind it", town.count(7), share);
        }
        Check.due("advise(1) of a new town", new ChicoryRoasters().advise(1), 0);
        ChicoryRoasters dry = new ChicoryRoasters();
        dry.card(9, 10);
        Check.due("advise(28) without anything to serve", dry.advise(28), 0);
    }

    /** "so that the most portions are served in so many days": a fifth one is asked for only on the last of 28. */
    private static void promise23LastDayCountsAndNoneBehindIt() {
        ChicoryRoasters monday = Towns.withParts(40, 10);
        monday.card(1, 0);
        Check.due("advise(28) with 4 weekdays 0 ahead", monday.advise(28), 0);
        ChicoryRoasters tuesday = Towns.withParts(40, 10);
        tuesday.pass(1);
        tuesday.card(1, 0);
        Check.due("advise(27) a day later", tuesday.advise(27), 0);
        Check.due("advise(28) a day later", tuesday.advise(28), 2);
    }

    private static void promise23DaysOutOf1To28() {
        for (int wrong : Refusal.beyond(1, 28)) {
            Refusal.due(Check.ARGUMENT, EMPTY, "advise(" + wrong + ")", town -> town.advise(wrong));
            Refusal.due(Check.ARGUMENT, FULL, "advise(" + wrong + ")", town -> town.advise(wrong));
        }
        // These are days that pass() and foresee() take.
        Refusal.due(Check.ARGUMENT, FULL, "advise(60)", town -> town.advise(60));
    }

    // ---- mean

    /** "0 without any": with beds, drums and smugglers, yet without cards. */
    private static void promise24WithoutAnyCards() {
        Check.dueDouble("mean() of a new town", new ChicoryRoasters().mean(), 0.0);
        ChicoryRoasters town = Towns.withParts(40, 40);
        town.pass(60);
        Check.dueDouble("mean() without cards", town.mean(), 0.0);
    }

    /** One card, three and ten: not cut, and cards for which none was served count as well. */
    private static void promise24FewAndAllCards() {
        ChicoryRoasters town = Towns.withParts(0, 10);
        town.setShare(10);
        town.card(1, 0);
        Check.dueDouble("mean() of 0 for 1 card", town.mean(), 0.0);
        town.pass(1);
        Check.dueDouble("mean() of 1 for 1 card", town.mean(), 1.0);
        town.card(1, 0);
        town.card(1, 0);
        Check.dueDouble("mean() of 1 for 3 cards", town.mean(), 1.0 / 3.0);
        for (int card = 3; card < 10; card++) {
            town.card(1, 0);
        }
        Check.dueDouble("mean() of 1 for 10 cards", town.mean(), 0.1);
        Check.dueDouble("mean() of a full town", Towns.full().mean(), 1.3);
    }

    // ---- digest

    /** The checksum in numbers without end. */
    private static BigInteger unbounded(List<Integer> numbers) {
        BigInteger d = BigInteger.valueOf(1723);
        for (int x : numbers) {
            d = d.multiply(BigInteger.valueOf(31)).add(BigInteger.valueOf(x));
        }
        return d;
    }

    private static List<Integer> counts(ChicoryRoasters town) {
        List<Integer> numbers = new ArrayList<>();
        for (int what = 0; what <= 8; what++) {
            numbers.add(town.count(what));
        }
        return numbers;
    }

    /** Of a new town the checksum has nine numbers, and is still below what 64 bits hold. */
    private static void promise25NothingThereYet() {
        ChicoryRoasters town = new ChicoryRoasters();
        BigInteger exact = unbounded(counts(town));
        Check.due("bits of the checksum of a new town below 64", exact.bitLength() < 64 ? 1 : 0, 1);
        Check.due("digest() of a new town", town.digest(), 1723L * 26439622160671L + 5 * 31);
        Check.due("digest() of a new town, without end", town.digest(), exact.longValueExact());
    }

    /** "which wraps around as a 64-bit integer": with one bed it goes past 64 bits, and at times below 0. */
    private static void promise25WrapsAround() {
        int negative = 0;
        int positive = 0;
        ChicoryRoasters town = new ChicoryRoasters();
        town.bed(9, 99);
        for (int pass = 0; pass < 30; pass++) {
            List<Integer> numbers = counts(town);
            numbers.addAll(List.of(9, 99, town.about(0, 2)));
            BigInteger exact = unbounded(numbers);
            Check.verdict(exact.bitLength() > 64, "the checksum of a town with a bed does not wrap around");
            long digest = town.digest();
            Check.due("digest() on the day " + town.count(0), digest, exact.longValue());
            negative += digest < 0 ? 1 : 0;
            positive += digest > 0 ? 1 : 0;
            town.pass(60);
        }
        Check.verdict(negative > 0 && positive > 0, "the checksum wraps around to one side alone");
    }

    /** "what count() tells, in its order; for each bed ...; drum ...; smuggler ...; card ... (all in their order)". */
    private static void promise25InTheirOrder() {
        ChicoryRoasters town = Towns.full();
        List<Integer> numbers = counts(town);
        for (int i = 0; i < 4; i++) {
            for (int what = 0; what <= 2; what++) {
                numbers.add(town.about(i, what));
            }
        }
        for (int i = 0; i < 4; i++) {
            for (int what = 0; what <= 5; what++) {
                numbers.add(town.roast(i, what));
            }
        }
        for (int i = 0; i < 4; i++) {
            for (int what = 0; what <= 4; what++) {
                numbers.add(town.told(i, what));
            }
        }
        for (int i = 0; i < 10; i++) {
            for (int what = 0; what <= 4; what++) {
                numbers.add(town.ration(i, what));
            }
        }
        Check.due("digest() of a full town", town.digest(), unbounded(numbers).longValue());
    }
}
