import java.util.function.Supplier;

/** The edges of 'Terms' and of promise 19: levels, portions, and the five steps of a day. */
public final class DayEdgesTest {
    private static final Supplier<ChicoryRoasters> EMPTY = ChicoryRoasters::new;
    private static final Supplier<ChicoryRoasters> FULL = Towns::full;

    private DayEdgesTest() {
    }

    public static void main(String[] args) {
        rootsAreDoneAt12AndBurntAt24();
        beansAreDoneAt8AndBurntAt15();
        yieldIsMultipliedBeforeItIsCut();
        levelIsAtMostBurnt();
        levelIsMoreByTheHeat();
        loadOfTodayIsRoastedToday();
        newLoadBeginsAtTheLevel0();
        bedHasAtMostSoMany();
        diggingMakesRoom();
        shareOrAsThereAre();
        notEnoughChicory();
        whatCannotBeMixedIsNotRefused();
        fewerPartsOfCoffeeThanPicky();
        refusedIsNotThinned();
        atMost2PortionsADay();
        asLongAsSomeAreLeft();
        secondPortionMayFail();
        lowerNumbersAreServedFirst();
        allIsLeftAgainOnTheWeekday0();
        whatWasLeftIsNotKept();
        newCardOnAnyWeekday();
        borderDayOfEachWay();
        eachWeekdayOfThePatrol();
        caughtBeforeComingHome();
        heldFor10Days();
        heldIsNotCaughtAgain();
        patrolLooksForThoseAwayAlone();
        noneLeftComesHome();
        promise19LeastAndGreatestDays();
        promise19DaysOutOf1To60();
        promise19DaysAddUp();
        the512thCallAnswers();
        Check.finish("DayEdgesTest");
    }

    // ---- loads

    /** A town whose drum was loaded and had the heat 1 for as many days as the level is. */
    private static ChicoryRoasters roastedTo(int kind, int many, int level) {
        ChicoryRoasters town = new ChicoryRoasters();
        town.drum(40, 1);
        town.give(kind, many);
        town.load(0, kind, many);
        if (level > 0) {
            town.pass(level);
        }
        return town;
    }

    private static void dueYield(int kind, int many, int days, int level, int parts) {
        ChicoryRoasters town = roastedTo(kind, many, days);
        String load = many + " of the kind " + kind + " behind " + days + " days";
        Check.due("level of " + load, town.roast(0, 4), level);
        Check.due("yield now of " + load, town.roast(0, 5), parts);
        Check.due("take of " + load, town.take(0), parts);
        Check.due("roasted in the store of " + load, town.count(3 + kind), parts);
        Check.due("roasted in the store, other than " + load, town.count(4 - kind), 0);
    }

    /** "Roots are done at the level 12, and burnt at 24"; "yields nothing below the level at which it is done". */
    private static void rootsAreDoneAt12AndBurntAt24() {
        dueYield(0, 40, 0, 0, 0);
        dueYield(0, 40, 11, 11, 0);
        dueYield(0, 40, 12, 12, 240);
        dueYield(0, 40, 13, 13, 220);
        dueYield(0, 40, 23, 23, 20);
        dueYield(0, 40, 24, 24, 0);
        dueYield(0, 40, 25, 24, 0);
        dueYield(0, 1, 11, 11, 0);
        dueYield(0, 1, 12, 12, 6);
    }

    /** "beans are done at 8, and burnt at 15". */
    private static void beansAreDoneAt8AndBurntAt15() {
        dueYield(1, 40, 0, 0, 0);
        dueYield(1, 40, 7, 7, 0);
        dueYield(1, 40, 8, 8, 320);
        dueYield(1, 40, 9, 9, 274);
        dueYield(1, 40, 14, 14, 45);
        dueYield(1, 40, 15, 15, 0);
        dueYield(1, 40, 16, 15, 0);
        dueYield(1, 1, 7, 7, 0);
        dueYield(1, 1, 8, 8, 8);
    }

    /** "all multiplied, / by how much done is below burnt", and "/ is cut towards 0". */
    private static void yieldIsMultipliedBeforeItIsCut() {
        dueYield(0, 1, 13, 13, 5);
        dueYield(0, 1, 22, 22, 1);
        dueYield(0, 1, 23, 23, 0);
        dueYield(0, 2, 23, 23, 1);
        dueYield(0, 3, 23, 23, 1);
        dueYield(1, 1, 9, 9, 6);
        dueYield(1, 1, 14, 14, 1);
        dueYield(1, 6, 14, 14, 6);
        dueYield(1, 7, 14, 14, 8);
    }

    private static void dueLevels(int kind, int heat, int... levels) {
        ChicoryRoasters town = new ChicoryRoasters();
        town.drum(1, heat);
        town.give(kind, 1);
        town.load(0, kind, 1);
        for (int level : levels) {
            Check.due("level of the kind " + kind + " with the heat " + heat, town.roast(0, 4), level);
            town.pass(1);
        }
    }

    /** "the level is more by the heat, at most burnt": just on it, and past it from one below. */
    private static void levelIsAtMostBurnt() {
        dueLevels(0, 8, 0, 8, 16, 24, 24);
        dueLevels(0, 9, 0, 9, 18, 24, 24);
        dueLevels(1, 5, 0, 5, 10, 15, 15);
        dueLevels(1, 8, 0, 8, 15, 15);
        dueLevels(1, 9, 0, 9, 15, 15);
        ChicoryRoasters town = roastedTo(0, 1, 23);
        town.setHeat(0, 9);
        town.pass(1);
        Check.due("level of roots from 23 with the heat 9", town.roast(0, 4), 24);
        ChicoryRoasters beans = roastedTo(1, 1, 14);
        beans.setHeat(0, 9);
        beans.pass(1);
        Check.due("level of beans from 14 with the heat 9", beans.roast(0, 4), 15);
    }

    /** With the least heat a load stays as it is, also one that is burnt. */
    private static void levelIsMoreByTheHeat() {
        dueLevels(0, 0, 0, 0, 0);
        dueLevels(1, 1, 0, 1, 2);
        ChicoryRoasters town = roastedTo(0, 40, 12);
        town.setHeat(0, 0);
        town.pass(60);
        Check.due("take(0) of a load that stayed done", town.take(0), 240);
        ChicoryRoasters burnt = roastedTo(1, 40, 15);
        burnt.setHeat(0, 0);
        burnt.pass(60);
        Check.due("roast(0, 4) of a load that stayed burnt", burnt.roast(0, 4), 15);
    }

    /** "a load that was put in since the day ahead, for the first time". */
    private static void loadOfTodayIsRoastedToday() {
        ChicoryRoasters town = new ChicoryRoasters();
        town.drum(10, 8);
        town.give(1, 10);
        town.pass(4);
        town.load(0, 1, 10);
        Check.due("roast(0, 4) as it is loaded", town.roast(0, 4), 0);
        town.pass(1);
        Check.due("roast(0, 4) a day later", town.roast(0, 4), 8);
        Check.due("take(0)", town.take(0), 80);
    }

    /** "roasted to a level (0, at first)": behind a burnt load as well. */
    private static void newLoadBeginsAtTheLevel0() {
        ChicoryRoasters town = roastedTo(0, 1, 24);
        town.take(0);
        town.give(1, 1);
        town.load(0, 1, 1);
        Check.due("roast(0, 4) of a load behind a burnt one", town.roast(0, 4), 0);
        town.pass(8);
        Check.due("take(0)", town.take(0), 8);
    }

    // ---- beds

    private static void dueRoots(int grows, int most, int... roots) {
        ChicoryRoasters town = new ChicoryRoasters();
        town.bed(grows, most);
        for (int want : roots) {
            Check.due("roots of bed(" + grows + ", " + most + ")", town.about(0, 2), want);
            town.pass(1);
        }
    }

    /** "the roots are more by what grows, as far as there is room": just room, less than room, none. */
    private static void bedHasAtMostSoMany() {
        dueRoots(0, 1, 0, 0, 0);
        dueRoots(0, 99, 0, 0, 0);
        dueRoots(1, 1, 0, 1, 1);
        dueRoots(9, 1, 0, 1, 1);
        dueRoots(9, 8, 0, 8, 8);
        dueRoots(9, 9, 0, 9, 9);
        dueRoots(9, 10, 0, 9, 10, 10);
        dueRoots(5, 10, 0, 5, 10, 10);
        dueRoots(9, 99, 0, 9, 18, 27, 36, 45, 54, 63, 72, 81, 90, 99, 99);
        dueRoots(9, 98, 0, 9, 18, 27, 36, 45, 54, 63, 72, 81, 90, 98, 98);
    }

    private static void diggingMakesRoom() {
        ChicoryRoasters town = new ChicoryRoasters();
        town.bed(9, 10);
        town.pass(2);
        town.dig(0, 1);
        town.pass(1);
        Check.due("about(0, 2) with room for 1", town.about(0, 2), 10);
        town.dig(0, 10);
        town.pass(1);
        Check.due("about(0, 2) with room for 10", town.about(0, 2), 9);
        Check.due("count(1)", town.count(1), 11);
    }

    // ---- portions

    /** What is left of chicory and coffee, and what was served, thinned and refused, behind a day with one card. */
    private static void dueDay(int chicory, int coffee, int share, int picky, int... want) {
        ChicoryRoasters town = Towns.withParts(chicory, coffee);
        town.setShare(share);
        town.card(9, picky);
        String day = "behind a day with " + chicory + " parts of chicory, " + coffee + " of coffee, the share " + share
                + " and a holder who is picky " + picky;
        Check.due("served " + day, town.pass(1), want[2]);
        Check.due("chicory " + day, town.count(3), want[0]);
        Check.due("coffee " + day, town.count(4), want[1]);
        Check.due("served in all " + day, town.count(5), want[2]);
        Check.due("thinned " + day, town.count(6), want[3]);
        Check.due("left " + day, town.ration(0, 2), 9 - want[2]);
        Check.due("served for the card " + day, town.ration(0, 3), want[2]);
        Check.due("refused " + day, town.ration(0, 4), want[4]);
    }

    /** "of coffee as many as the share, 0 to 10, or as there are, if these are fewer; the rest of chicory". */
    private static void shareOrAsThereAre() {
        dueDay(5, 5, 5, 0, 0, 0, 1, 0, 0);
        dueDay(5, 6, 5, 0, 0, 1, 1, 0, 0);
        dueDay(6, 4, 5, 0, 0, 0, 1, 1, 0);
        dueDay(10, 0, 5, 0, 0, 0, 1, 1, 0);
        dueDay(10, 3, 0, 0, 0, 3, 1, 0, 0);
        dueDay(10, 0, 0, 0, 0, 0, 1, 0, 0);
        dueDay(0, 10, 10, 0, 0, 0, 1, 0, 0);
        dueDay(1, 9, 10, 0, 0, 0, 1, 1, 0);
        dueDay(1, 9, 9, 0, 0, 0, 1, 0, 0);
        dueDay(9, 1, 1, 0, 0, 0, 1, 0, 0);
    }

    /** "It cannot be mixed, if there is not enough chicory for that": one part too few. */
    private static void notEnoughChicory() {
        dueDay(0, 0, 5, 0, 0, 0, 0, 0, 0);
        dueDay(4, 5, 5, 0, 4, 5, 0, 0, 0);
        dueDay(4, 40, 5, 0, 4, 40, 0, 0, 0);
        dueDay(5, 4, 5, 0, 5, 4, 0, 0, 0);
        dueDay(9, 0, 5, 0, 9, 0, 0, 0, 0);
        dueDay(9, 40, 0, 0, 9, 40, 0, 0, 0);
        dueDay(0, 9, 10, 0, 0, 9, 0, 0, 0);
        dueDay(0, 40, 9, 0, 0, 40, 0, 0, 0);
    }

    /** "if a portion cannot be mixed, it is over for this card on this day; if it can, but ... it is refused". */
    private static void whatCannotBeMixedIsNotRefused() {
        dueDay(0, 0, 5, 10, 0, 0, 0, 0, 0);
        dueDay(4, 5, 5, 10, 4, 5, 0, 0, 0);
        dueDay(9, 0, 0, 10, 9, 0, 0, 0, 0);
        dueDay(5, 5, 5, 10, 5, 5, 0, 0, 1);
    }

    /** "would have fewer parts of coffee than its holder is picky": just as many are taken, one fewer is not. */
    private static void fewerPartsOfCoffeeThanPicky() {
        dueDay(5, 5, 5, 5, 0, 0, 1, 0, 0);
        dueDay(5, 5, 5, 6, 5, 5, 0, 0, 1);
        dueDay(6, 4, 5, 4, 0, 0, 1, 1, 0);
        dueDay(6, 4, 5, 5, 6, 4, 0, 0, 1);
        dueDay(10, 0, 5, 0, 0, 0, 1, 1, 0);
        dueDay(10, 0, 5, 1, 10, 0, 0, 0, 1);
        dueDay(10, 9, 0, 1, 10, 9, 0, 0, 1);
        dueDay(0, 10, 10, 10, 0, 0, 1, 0, 0);
        dueDay(1, 10, 9, 10, 1, 10, 0, 0, 1);
        dueDay(1, 9, 10, 10, 1, 9, 0, 0, 1);
    }

    /** "A portion that is served with fewer parts of coffee than the share is thinned": one that is served. */
    private static void refusedIsNotThinned() {
        dueDay(20, 1, 5, 2, 20, 1, 0, 0, 1);
        dueDay(19, 1, 5, 1, 10, 0, 1, 1, 1);
        dueDay(19, 1, 5, 0, 0, 0, 2, 2, 0);
        dueDay(14, 6, 5, 0, 0, 0, 2, 1, 0);
    }

    /** "Then at most 2 portions are served for it". */
    private static void atMost2PortionsADay() {
        dueDay(30, 0, 0, 0, 10, 0, 2, 0, 0);
        dueDay(0, 30, 10, 10, 0, 10, 2, 0, 0);
        dueDay(20, 0, 0, 0, 0, 0, 2, 0, 0);
        dueDay(19, 0, 0, 0, 9, 0, 1, 0, 0);
    }

    /** "one by one, as long as some are left": with 2, 1 and none left; with none left none is refused. */
    private static void asLongAsSomeAreLeft() {
        for (int allotted = 1; allotted <= 9; allotted++) {
            ChicoryRoasters town = Towns.withParts(0, 100);
            town.setShare(10);
            town.card(allotted, 0);
            int left = allotted;
            for (int day = 0; day < 6; day++) {
                int portions = Math.min(left, 2);
                Check.due("portions of " + left + " left", town.pass(1), portions);
                left -= portions;
                Check.due("left of " + allotted, town.ration(0, 2), left);
            }
        }
        ChicoryRoasters town = Towns.withParts(40, 0);
        town.setShare(0);
        town.card(2, 0);
        town.card(3, 1);
        town.pass(6);
        Check.due("refused with 3 left, on 6 days", town.ration(1, 4), 6);
        Check.due("refused with none left", town.ration(0, 4), 0);
    }

    /** The second portion of a day may be one that cannot be mixed, or that is refused. */
    private static void secondPortionMayFail() {
        dueDay(14, 5, 5, 0, 9, 0, 1, 0, 0);
        dueDay(14, 5, 5, 5, 9, 0, 1, 0, 0);
        dueDay(15, 5, 5, 5, 10, 0, 1, 0, 1);
        dueDay(11, 9, 5, 5, 6, 4, 1, 0, 1);
    }

    /** "Cards, by numbers": the one before takes what the next would need. */
    private static void lowerNumbersAreServedFirst() {
        ChicoryRoasters town = Towns.withParts(30, 10);
        for (int card = 0; card < 10; card++) {
            town.card(9, card == 2 ? 1 : 0);
        }
        Check.due("pass(1)", town.pass(1), 4);
        // 10 + 10 parts make 2 portions with coffee for the card 0; the rest, 20 of chicory, are 2 without.
        int[] served = {2, 2, 0, 0, 0, 0, 0, 0, 0, 0};
        for (int card = 0; card < 10; card++) {
            Check.due("ration(" + card + ", 3)", town.ration(card, 3), served[card]);
            Check.due("ration(" + card + ", 4)", town.ration(card, 4), 0);
        }
        Check.due("count(6)", town.count(6), 2);
    }

    /** "on the weekday 0 all that is allotted is left again": before the portions of that day, on 0, 7, 14, 21, 28. */
    private static void allIsLeftAgainOnTheWeekday0() {
        ChicoryRoasters town = Towns.withParts(0, 100);
        town.setShare(10);
        town.card(1, 0);
        for (int day = 0; day <= 28; day++) {
            Check.due("portions on the weekday " + day % 7, town.pass(1), day % 7 == 0 ? 1 : 0);
            Check.due("left behind the weekday " + day % 7, town.ration(0, 2), 0);
        }
        ChicoryRoasters dry = new ChicoryRoasters();
        dry.card(9, 10);
        dry.pass(1);
        Check.due("left behind the weekday 0 without anything to serve", dry.ration(0, 2), 9);
    }

    /** All that is allotted, and not that besides what was left. */
    private static void whatWasLeftIsNotKept() {
        ChicoryRoasters town = Towns.withParts(0, 30);
        town.setShare(10);
        town.card(9, 0);
        town.pass(7);
        Check.due("left behind the week", town.ration(0, 2), 6);
        town.pass(1);
        Check.due("left behind the next weekday 0", town.ration(0, 2), 9);
        Check.due("served in all", town.ration(0, 3), 3);
    }

    /** "all of which are left at first", whatever the weekday. */
    private static void newCardOnAnyWeekday() {
        for (int weekday = 1; weekday < 7; weekday++) {
            ChicoryRoasters town = Towns.withParts(0, 100);
            town.setShare(10);
            town.pass(weekday);
            town.card(4, 0);
            Check.due("left of a new card", town.ration(0, 2), 4);
            Check.due("portions on the weekday " + weekday, town.pass(1), 2);
            Check.due("left behind the weekday " + weekday, town.ration(0, 2), 2);
        }
    }

    // ---- smugglers and the patrol

    private static ChicoryRoasters sent(int way, int patrol, int day) {
        ChicoryRoasters town = new ChicoryRoasters();
        town.smuggler(way, 30);
        town.setPatrol(patrol);
        if (day > 0) {
            town.pass(day);
        }
        town.send(0);
        return town;
    }

    private static void dueSmuggler(ChicoryRoasters town, String call, int where, int left, int arrests, int beans) {
        Check.due("told(0, 2) " + call, town.told(0, 2), where);
        Check.due("told(0, 3) " + call, town.told(0, 3), left);
        Check.due("told(0, 4) " + call, town.told(0, 4), arrests);
        Check.due("count(2) " + call, town.count(2), beans);
    }

    /** "with the way / 2 left then (so way - way / 2 days behind the sending ...)": cut for a way of odd days. */
    private static void borderDayOfEachWay() {
        int[] daysToBorder = {1, 2, 2, 3, 3, 4, 4, 5, 5, 6, 6, 7, 7};
        for (int way = 2; way <= 14; way++) {
            int days = daysToBorder[way - 2];
            ChicoryRoasters caught = sent(way, 1 << (days - 1), 0);
            if (days > 1) {
                caught.pass(days - 1);
            }
            dueSmuggler(caught, "a day short of the border, way " + way, 1, way - days + 1, 0, 0);
            caught.pass(1);
            dueSmuggler(caught, "at the border, way " + way, 2, 10, 1, 0);
            ChicoryRoasters past = sent(way, 127 - (1 << (days - 1)), 0);
            past.pass(way - 1);
            dueSmuggler(past, "a day short of home, way " + way, 1, 1, 0, 0);
            past.pass(1);
            dueSmuggler(past, "home, way " + way, 0, 0, 0, 30);
        }
    }

    /** "1 for the weekday 0, 2 for 1, 4 for 2 and so on"; the weekday is "the remainder of its number by 7". */
    private static void eachWeekdayOfThePatrol() {
        for (int day = 0; day <= 14; day++) {
            for (int weekday = 0; weekday < 7; weekday++) {
                ChicoryRoasters town = sent(2, 1 << weekday, day);
                town.pass(1);
                Check.due("told(0, 4) on the day " + day, town.told(0, 4), day % 7 == weekday ? 1 : 0);
            }
        }
    }

    /** With the way of 2 days there is a day left at the border; the beans are lost all the same. */
    private static void caughtBeforeComingHome() {
        ChicoryRoasters town = sent(2, 127, 0);
        town.pass(11);
        dueSmuggler(town, "home behind the arrest", 0, 0, 1, 0);
        town.pass(20);
        dueSmuggler(town, "long behind the arrest", 0, 0, 1, 0);
    }

    /** "held, with 10 days left (less from the next day on)"; "brings the beans, if not held till then". */
    private static void heldFor10Days() {
        ChicoryRoasters town = sent(3, 2, 0);
        town.pass(2);
        for (int left = 10; left >= 1; left--) {
            dueSmuggler(town, "held", 2, left, 1, 0);
            town.pass(1);
        }
        dueSmuggler(town, "home again", 0, 0, 1, 0);
        town.setPatrol(0);
        town.send(0);
        town.pass(3);
        dueSmuggler(town, "home with beans", 0, 0, 1, 30);
    }

    /** Only "one who is away" is caught: one who is held passes way / 2 days left under a patrol of each day. */
    private static void heldIsNotCaughtAgain() {
        for (int way = 2; way <= 14; way++) {
            ChicoryRoasters town = sent(way, 127, 0);
            int days = way - way / 2;
            town.pass(days + 9);
            dueSmuggler(town, "held to the last day, way " + way, 2, 1, 1, 0);
            town.pass(1);
            dueSmuggler(town, "home from being held, way " + way, 0, 0, 1, 0);
            town.send(0);
            town.pass(days);
            dueSmuggler(town, "caught the second time, way " + way, 2, 10, 2, 0);
        }
    }

    /** One who is home has no way: the patrol of each day leaves the town alone. */
    private static void patrolLooksForThoseAwayAlone() {
        ChicoryRoasters town = new ChicoryRoasters();
        town.smuggler(2, 30);
        town.setPatrol(127);
        town.pass(60);
        dueSmuggler(town, "never sent", 0, 0, 0, 0);
    }

    /** "Who has none left comes home, and brings the beans": the least and the greatest way and cargo. */
    private static void noneLeftComesHome() {
        int[][] smugglers = {{2, 1}, {2, 30}, {14, 1}, {14, 30}};
        for (int[] smuggler : smugglers) {
            ChicoryRoasters town = new ChicoryRoasters();
            town.smuggler(smuggler[0], smuggler[1]);
            town.send(0);
            town.pass(smuggler[0] - 1);
            dueSmuggler(town, "a day short of home", 1, 1, 0, 0);
            town.pass(1);
            dueSmuggler(town, "home", 0, 0, 0, smuggler[1]);
            town.pass(1);
            dueSmuggler(town, "a day at home", 0, 0, 0, smuggler[1]);
        }
    }

    // ---- pass

    /** "Throws IllegalArgumentException if days is not 1 to 60": 1 and 60 go by; "The day is 1 greater." */
    private static void promise19LeastAndGreatestDays() {
        ChicoryRoasters town = new ChicoryRoasters();
        Check.due("pass(1) without cards", town.pass(1), 0);
        Check.due("count(0)", town.count(0), 1);
        Check.due("pass(60) without cards", town.pass(60), 0);
        Check.due("count(0)", town.count(0), 61);
        ChicoryRoasters full = Towns.full();
        Check.due("pass(1) of a full town", full.pass(1), 9);
        Check.due("count(5)", full.count(5), 22);
    }

    private static void promise19DaysOutOf1To60() {
        for (int wrong : Refusal.beyond(1, 60)) {
            Refusal.due(Check.ARGUMENT, EMPTY, "pass(" + wrong + ")", town -> town.pass(wrong));
            Refusal.due(Check.ARGUMENT, FULL, "pass(" + wrong + ")", town -> town.pass(wrong));
        }
    }

    /** "Returns how many portions are served in them": 60 days at once are 60 times one day. */
    private static void promise19DaysAddUp() {
        ChicoryRoasters atOnce = Towns.full();
        ChicoryRoasters oneByOne = Towns.full();
        int portions = 0;
        for (int day = 0; day < 60; day++) {
            portions += oneByOne.pass(1);
        }
        Check.due("pass(60)", atOnce.pass(60), portions);
        Check.due("digest behind pass(60)", atOnce.digest(), oneByOne.digest());
    }

    /** "An object is used for at most 512 calls after it has been made": the last of them is answered as the first. */
    private static void the512thCallAnswers() {
        ChicoryRoasters given = new ChicoryRoasters();
        for (int call = 1; call <= 511; call++) {
            given.give(1, 99);
        }
        Check.due("the 512th call, give(1, 99)", given.give(1, 99), 512 * 99);
        ChicoryRoasters old = new ChicoryRoasters();
        old.smuggler(2, 1);
        old.setPatrol(8);
        for (int call = 3; call <= 510; call++) {
            old.pass(60);
        }
        Check.due("the 511th call, count(0)", old.count(0), 508 * 60);
        // 30480 is 4354 * 7 + 2, so the weekday 3 is one day ahead.
        Check.dueBoolean("the 512th call, caught(0, 1)", old.caught(0, 1), true);
    }
}
