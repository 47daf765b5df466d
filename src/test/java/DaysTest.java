/** Promise 19: how days go by, step by step. */
public final class DaysTest {
    private DaysTest() {
    }

    public static void main(String[] args) {
        wrongDays();
        dayGoesOn();
        smugglerComesHome();
        smugglerIsCaughtOnTheBorderDayAlone();
        borderDayOfEachWay();
        smugglerIsHeldForTenDays();
        patrolOfTheDayCounts();
        caughtOnceInAWay();
        weekdayComesRoundAgain();
        smugglersGoSideBySide();
        loadsAreRoasted();
        loadsBurn();
        bedsGrow();
        portionsAreMixed();
        chicoryJustSuffices();
        coffeeWithoutChicory();
        refusedPortionEndsTheDayOfACard();
        pickyHolderTakesJustEnough();
        nothingLeftNothingRefused();
        cardsAreServedByNumber();
        allottedIsRenewedOnTheWeekday0();
        passTellsPortionsOfItsDays();
        daysOfAFullTown();
        Check.finish("DaysTest");
    }

    private static void wrongDays() {
        ChicoryRoasters town = Towns.busy();
        for (int wrong : new int[] {0, 61, -1, Integer.MIN_VALUE, Integer.MAX_VALUE}) {
            Check.thrown(town, "pass(" + wrong + ")", Check.ARGUMENT, () -> town.pass(wrong));
        }
    }

    private static void dayGoesOn() {
        ChicoryRoasters town = new ChicoryRoasters();
        Check.due("pass(1)", town.pass(1), 0);
        Check.due("count(0)", town.count(0), 1);
        Check.due("pass(60)", town.pass(60), 0);
        Check.due("count(0)", town.count(0), 61);
    }

    private static void dueSmuggler(ChicoryRoasters town, int smuggler, int where, int left, int arrests) {
        String when = " of the smuggler " + smuggler + " on the day " + town.count(0);
        Check.due("whereabouts" + when, town.told(smuggler, 2), where);
        Check.due("days left" + when, town.told(smuggler, 3), left);
        Check.due("arrests" + when, town.told(smuggler, 4), arrests);
    }

    private static void smugglerComesHome() {
        ChicoryRoasters town = new ChicoryRoasters();
        town.smuggler(5, 7);
        town.smuggler(3, 9);
        town.send(0);
        for (int left = 4; left >= 1; left--) {
            town.pass(1);
            dueSmuggler(town, 0, 1, left, 0);
            Check.due("beans on the way", town.count(2), 0);
        }
        town.pass(1);
        dueSmuggler(town, 0, 0, 0, 0);
        Check.due("beans brought", town.count(2), 7);
        town.pass(30);
        Check.due("beans while all are home", town.count(2), 7);
        dueSmuggler(town, 1, 0, 0, 0);
    }

    private static void smugglerIsCaughtOnTheBorderDayAlone() {
        ChicoryRoasters watched = new ChicoryRoasters();
        watched.smuggler(5, 7);
        watched.setPatrol(4);
        watched.send(0);
        watched.pass(2);
        dueSmuggler(watched, 0, 1, 3, 0);
        watched.pass(1);
        dueSmuggler(watched, 0, 2, 10, 1);

        ChicoryRoasters open = new ChicoryRoasters();
        open.smuggler(5, 7);
        open.setPatrol(127 - 4);
        open.send(0);
        open.pass(5);
        dueSmuggler(open, 0, 0, 0, 0);
        Check.due("beans past the patrol", open.count(2), 7);
    }

    /** The day, counted from the sending as day 0, on which each way is at the border. */
    private static void borderDayOfEachWay() {
        int[] borders = {0, 1, 1, 2, 2, 3, 3, 4, 4, 5, 5, 6, 6};
        for (int way = 2; way <= 14; way++) {
            int border = borders[way - 2];
            ChicoryRoasters town = new ChicoryRoasters();
            town.smuggler(way, 1);
            town.setPatrol(1 << border);
            town.send(0);
            if (border > 0) {
                town.pass(border);
            }
            dueSmuggler(town, 0, 1, way - border, 0);
            town.pass(1);
            dueSmuggler(town, 0, 2, 10, 1);
        }
    }

    private static void smugglerIsHeldForTenDays() {
        ChicoryRoasters town = new ChicoryRoasters();
        town.smuggler(2, 30);
        town.setPatrol(1);
        town.send(0);
        town.pass(1);
        for (int left = 10; left >= 1; left--) {
            dueSmuggler(town, 0, 2, left, 1);
            town.pass(1);
        }
        dueSmuggler(town, 0, 0, 0, 1);
        Check.due("beans of one who was held", town.count(2), 0);
        town.send(0);
        town.pass(2);
        dueSmuggler(town, 0, 0, 0, 1);
        Check.due("beans of the next way", town.count(2), 30);
    }

    private static void patrolOfTheDayCounts() {
        ChicoryRoasters town = new ChicoryRoasters();
        town.smuggler(4, 3);
        town.setPatrol(2);
        town.send(0);
        town.pass(1);
        town.setPatrol(1);
        town.pass(1);
        dueSmuggler(town, 0, 1, 2, 0);
        town.pass(2);
        town.send(0);
        town.pass(1);
        town.setPatrol(32);
        town.pass(1);
        dueSmuggler(town, 0, 2, 10, 1);
    }

    private static void caughtOnceInAWay() {
        ChicoryRoasters town = new ChicoryRoasters();
        town.smuggler(14, 30);
        town.setPatrol(127);
        town.send(0);
        town.pass(7);
        dueSmuggler(town, 0, 2, 10, 1);
        town.pass(3);
        dueSmuggler(town, 0, 2, 7, 1);
        town.pass(6);
        dueSmuggler(town, 0, 2, 1, 1);
        town.pass(1);
        dueSmuggler(town, 0, 0, 0, 1);
    }

    private static void weekdayComesRoundAgain() {
        ChicoryRoasters town = new ChicoryRoasters();
        town.smuggler(2, 4);
        town.setPatrol(64);
        town.pass(13);
        town.send(0);
        town.pass(1);
        dueSmuggler(town, 0, 2, 10, 1);
        town.pass(10);
        town.send(0);
        town.pass(2);
        Check.due("beans sent on the weekday 3", town.count(2), 4);
    }

    private static void smugglersGoSideBySide() {
        ChicoryRoasters town = new ChicoryRoasters();
        town.smuggler(2, 1);
        town.smuggler(3, 10);
        town.smuggler(4, 20);
        town.smuggler(2, 5);
        for (int smuggler = 0; smuggler < 4; smuggler++) {
            town.send(smuggler);
        }
        town.pass(2);
        Check.due("beans behind 2 days", town.count(2), 6);
        town.pass(1);
        Check.due("beans behind 3 days", town.count(2), 16);
        town.pass(1);
        Check.due("beans behind 4 days", town.count(2), 36);
    }

    private static void loadsAreRoasted() {
        ChicoryRoasters town = new ChicoryRoasters();
        town.drum(10, 5);
        town.drum(10, 0);
        town.drum(10, 3);
        town.give(0, 20);
        town.pass(3);
        town.load(0, 0, 10);
        town.load(1, 0, 10);
        town.pass(1);
        Check.due("level by the heat 5", town.roast(0, 4), 5);
        Check.due("level by the heat 0", town.roast(1, 4), 0);
        Check.due("level of an empty drum", town.roast(2, 4), 0);
        Check.due("kind in an empty drum", town.roast(2, 2), -1);
        town.pass(2);
        Check.due("level by the heat 5", town.roast(0, 4), 15);
        Check.due("parts of 10 roots at 15", town.roast(0, 5), 45);
        Check.due("parts in the store before they are taken", town.count(3), 0);
    }

    private static void loadsBurn() {
        ChicoryRoasters town = new ChicoryRoasters();
        town.drum(10, 7);
        town.drum(10, 7);
        town.give(0, 10);
        town.give(1, 10);
        town.load(0, 0, 10);
        town.load(1, 1, 10);
        town.pass(3);
        Check.due("level of roots", town.roast(0, 4), 21);
        Check.due("level of burnt beans", town.roast(1, 4), 15);
        town.pass(1);
        Check.due("level of burnt roots", town.roast(0, 4), 24);
        Check.due("parts of burnt roots", town.roast(0, 5), 0);
        town.pass(5);
        Check.due("level of burnt roots", town.roast(0, 4), 24);
        Check.due("take(0)", town.take(0), 0);
        Check.due("take(1)", town.take(1), 0);
    }

    private static void bedsGrow() {
        ChicoryRoasters town = new ChicoryRoasters();
        town.bed(5, 12);
        town.bed(0, 9);
        town.bed(9, 1);
        int[] roots = {5, 10, 12, 12};
        for (int want : roots) {
            town.pass(1);
            Check.due("about(0, 2)", town.about(0, 2), want);
            Check.due("about(1, 2)", town.about(1, 2), 0);
            Check.due("about(2, 2)", town.about(2, 2), 1);
        }
        town.dig(0, 3);
        town.pass(1);
        Check.due("about(0, 2)", town.about(0, 2), 12);
        Check.due("roots that have no room are lost", town.count(1), 3);
    }

    private static void dueStore(ChicoryRoasters town, int chicory, int coffee, int served, int thinned) {
        String when = " on the day " + town.count(0);
        Check.due("chicory" + when, town.count(3), chicory);
        Check.due("coffee" + when, town.count(4), coffee);
        Check.due("served" + when, town.count(5), served);
        Check.due("thinned" + when, town.count(6), thinned);
    }

    private static void dueCard(ChicoryRoasters town, int card, int left, int served, int refused) {
        String when = " of the card " + card + " on the day " + town.count(0);
        Check.due("left" + when, town.ration(card, 2), left);
        Check.due("served" + when, town.ration(card, 3), served);
        Check.due("refused" + when, town.ration(card, 4), refused);
    }

    private static void portionsAreMixed() {
        ChicoryRoasters town = Towns.withRoasted(5, 1);
        town.card(9, 0);
        town.card(9, 4);
        dueStore(town, 30, 8, 0, 0);
        Check.due("pass(1)", town.pass(1), 2);
        dueStore(town, 18, 0, 2, 1);
        dueCard(town, 0, 7, 2, 0);
        dueCard(town, 1, 9, 0, 1);
        Check.due("pass(1)", town.pass(1), 1);
        dueStore(town, 8, 0, 3, 2);
        dueCard(town, 0, 6, 3, 0);
        dueCard(town, 1, 9, 0, 1);
        Check.due("pass(5)", town.pass(5), 0);
        dueStore(town, 8, 0, 3, 2);
    }

    private static void chicoryJustSuffices() {
        ChicoryRoasters town = Towns.withRoasted(5, 0);
        town.setShare(0);
        town.card(9, 0);
        Check.due("pass(1)", town.pass(1), 2);
        Check.due("pass(1)", town.pass(1), 1);
        Check.due("pass(1)", town.pass(1), 0);
        dueStore(town, 0, 0, 3, 0);
        dueCard(town, 0, 6, 3, 0);
    }

    private static void coffeeWithoutChicory() {
        ChicoryRoasters town = Towns.withRoasted(0, 4);
        town.setShare(10);
        town.card(9, 10);
        Check.due("pass(1)", town.pass(1), 2);
        Check.due("pass(1)", town.pass(1), 1);
        dueStore(town, 0, 2, 3, 0);
        dueCard(town, 0, 6, 3, 0);
        town.setShare(2);
        Check.due("pass(1)", town.pass(1), 0);
        dueCard(town, 0, 6, 3, 0);
    }

    private static void refusedPortionEndsTheDayOfACard() {
        ChicoryRoasters town = Towns.withRoasted(40, 1);
        town.card(9, 6);
        town.card(9, 4);
        town.card(9, 0);
        Check.due("pass(1)", town.pass(1), 3);
        dueCard(town, 0, 9, 0, 1);
        dueCard(town, 1, 8, 1, 1);
        dueCard(town, 2, 7, 2, 0);
        dueStore(town, 240 - 5 - 7 - 10, 0, 3, 2);
        Check.due("pass(2)", town.pass(2), 4);
        dueCard(town, 0, 9, 0, 3);
        dueCard(town, 1, 8, 1, 3);
    }

    private static void pickyHolderTakesJustEnough() {
        ChicoryRoasters town = Towns.withRoasted(40, 40);
        town.card(9, 7);
        town.setShare(6);
        Check.due("pass(1)", town.pass(1), 0);
        dueCard(town, 0, 9, 0, 1);
        town.setShare(7);
        Check.due("pass(1)", town.pass(1), 2);
        dueCard(town, 0, 7, 2, 1);
        dueStore(town, 234, 306, 2, 0);
    }

    private static void nothingLeftNothingRefused() {
        ChicoryRoasters town = Towns.withRoasted(40, 40);
        town.card(1, 5);
        town.card(3, 5);
        Check.due("pass(1)", town.pass(1), 3);
        dueCard(town, 0, 0, 1, 0);
        town.setShare(0);
        Check.due("pass(3)", town.pass(3), 0);
        dueCard(town, 0, 0, 1, 0);
        dueCard(town, 1, 1, 2, 3);
    }

    private static void cardsAreServedByNumber() {
        ChicoryRoasters town = Towns.withRoasted(5, 0);
        town.setShare(0);
        town.card(9, 0);
        town.card(9, 0);
        town.card(9, 0);
        Check.due("pass(1)", town.pass(1), 3);
        dueCard(town, 0, 7, 2, 0);
        dueCard(town, 1, 8, 1, 0);
        dueCard(town, 2, 9, 0, 0);
    }

    private static void allottedIsRenewedOnTheWeekday0() {
        ChicoryRoasters town = Towns.withRoasted(40, 0);
        town.setShare(0);
        town.card(3, 0);
        int[] leftBehindDay = {1, 0, 0, 0, 0, 0, 0, 1, 0};
        for (int left : leftBehindDay) {
            town.pass(1);
            Check.due("left on the day " + town.count(0), town.ration(0, 2), left);
        }
        Check.due("ration(0, 3)", town.ration(0, 3), 6);
        town.pass(5);
        town.card(9, 0);
        Check.due("pass(1)", town.pass(1), 4);
        Check.due("left on the day 22", town.ration(0, 2), 1);
        Check.due("left on the day 22", town.ration(1, 2), 7);
    }

    private static void passTellsPortionsOfItsDays() {
        ChicoryRoasters town = Towns.withRoasted(40, 0);
        town.setShare(0);
        town.card(9, 0);
        town.card(4, 0);
        Check.due("pass(3)", town.pass(3), 10);
        Check.due("pass(4)", town.pass(4), 3);
        Check.due("pass(60)", town.pass(60), 11);
        Check.due("count(5)", town.count(5), 24);
    }

    private static void daysOfAFullTown() {
        ChicoryRoasters town = Towns.withRoasted(40, 0);
        town.setShare(0);
        town.drum(1, 1);
        town.drum(1, 2);
        town.give(0, 4);
        for (int i = 0; i < 4; i++) {
            town.bed(i + 1, 99);
            town.smuggler(i + 2, 1);
            town.send(i);
            town.load(i, 0, 1);
        }
        for (int card = 0; card < 10; card++) {
            town.card(9, 0);
        }
        Check.due("foresee(2, 5)", town.foresee(2, 5), 24);
        Check.due("foresee(5, 2)", town.foresee(5, 2), 4);
        Check.due("pass(1)", town.pass(1), 20);
        int[] levels = {6, 4, 1, 2};
        for (int i = 0; i < 4; i++) {
            Check.due("about(" + i + ", 2)", town.about(i, 2), i + 1);
            Check.due("roast(" + i + ", 4)", town.roast(i, 4), levels[i]);
            Check.due("told(" + i + ", 3)", town.told(i, 3), i + 1);
        }
        for (int card = 0; card < 10; card++) {
            Check.due("ration(" + card + ", 2)", town.ration(card, 2), 7);
        }
        Check.due("pass(1)", town.pass(1), 4);
    }
}
