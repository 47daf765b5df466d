/** Promises 20 to 23: what would be. */
public final class WouldBeTest {
    private WouldBeTest() {
    }

    public static void main(String[] args) {
        promise20Foresee();
        promise20ForeseeAsItComes();
        promise20ForeseeRefused();
        promise21Ready();
        promise21ReadyOfSeveralTheFewest();
        promise21ReadyNever();
        promise22Caught();
        promise22CaughtAsItComes();
        promise22CaughtRefused();
        promise23Advise();
        promise23AdviseOfSeveralTheSmallest();
        promise23AdviseRefused();
        Check.finish("WouldBeTest");
    }

    private static void promise20Foresee() {
        ChicoryRoasters town = Towns.withRoasted(5, 1);
        town.bed(5, 50);
        town.give(0, 3);
        town.smuggler(3, 4);
        town.send(0);
        town.card(9, 0);
        town.pass(1);
        long before = town.digest();
        int[] behindOneDay = {3, 0, 8, 0, 3, 2};
        int[] behindTwoDays = {3, 4, 8, 0, 3, 2};
        for (int what = 1; what <= 6; what++) {
            Check.due("foresee(1, " + what + ")", town.foresee(1, what), behindOneDay[what - 1]);
            Check.due("foresee(2, " + what + ")", town.foresee(2, what), behindTwoDays[what - 1]);
            Check.due("foresee(60, " + what + ")", town.foresee(60, what), behindTwoDays[what - 1]);
        }
        Check.due("digest behind foresee", town.digest(), before);
    }

    /** All that is foreseen of a busy town comes, also when the town had been foreseen otherwise before. */
    private static void promise20ForeseeAsItComes() {
        for (int days = 1; days <= 60; days++) {
            ChicoryRoasters town = Towns.busy();
            town.foresee(60, 5);
            town.send(2);
            town.setShare(0);
            town.setPatrol(8);
            town.card(9, 0);
            long before = town.digest();
            int[] foreseen = new int[7];
            for (int what = 1; what <= 6; what++) {
                foreseen[what] = town.foresee(days, what);
            }
            Check.due("digest behind foresee", town.digest(), before);
            town.pass(days);
            for (int what = 1; what <= 6; what++) {
                Check.due("foresee(" + days + ", " + what + ")", foreseen[what], town.count(what));
            }
        }
    }

    private static void promise20ForeseeRefused() {
        ChicoryRoasters town = Towns.busy();
        for (int wrong : new int[] {0, 61, -1, Integer.MIN_VALUE, Integer.MAX_VALUE}) {
            Check.thrown(town, "foresee(" + wrong + ", 1)", Check.ARGUMENT, () -> town.foresee(wrong, 1));
            Check.thrown(town, "foresee(" + wrong + ", 0)", Check.ARGUMENT, () -> town.foresee(wrong, 0));
        }
        for (int wrong : new int[] {0, 7, 8, -1, Integer.MIN_VALUE, Integer.MAX_VALUE}) {
            Check.thrown(town, "foresee(1, " + wrong + ")", Check.INDEX, () -> town.foresee(1, wrong));
        }
    }

    private static ChicoryRoasters withLoad(int kind, int many, int heat) {
        ChicoryRoasters town = new ChicoryRoasters();
        town.drum(1, 1);
        town.drum(40, heat);
        town.give(kind, many);
        town.load(1, kind, many);
        return town;
    }

    private static void promise21Ready() {
        int[] ofRoots = {-1, 12, 6, 4, 3, 3, 2, 2, 2, 2};
        int[] ofBeans = {-1, 8, 4, 3, 2, 2, 2, 2, 1, 1};
        for (int heat = 0; heat <= 9; heat++) {
            Check.due("ready of roots at the heat " + heat, withLoad(0, 40, heat).ready(1), ofRoots[heat]);
            Check.due("ready of beans at the heat " + heat, withLoad(1, 40, heat).ready(1), ofBeans[heat]);
        }
        ChicoryRoasters town = withLoad(0, 10, 6);
        town.pass(1);
        Check.due("ready(1) a day later", town.ready(1), 1);
        town.setHeat(1, 2);
        Check.due("ready(1) with the heat as it is then", town.ready(1), 3);
        long before = town.digest();
        town.ready(1);
        Check.due("digest behind ready", town.digest(), before);
        town.pass(3);
        Check.due("ready(1) of a load that is done", town.ready(1), 0);
        town.pass(1);
        Check.due("ready(1) of a load that gets less", town.ready(1), 0);
        for (int wrong : new int[] {-1, 2, 4, Integer.MIN_VALUE, Integer.MAX_VALUE}) {
            Check.thrown(town, "ready(" + wrong + ")", Check.INDEX, () -> town.ready(wrong));
        }
    }

    private static void promise21ReadyOfSeveralTheFewest() {
        ChicoryRoasters cold = withLoad(0, 10, 6);
        cold.pass(2);
        cold.setHeat(1, 0);
        Check.due("ready(1) of a load that stays as it is", cold.ready(1), 0);
        // One root yields 5 parts at the level 13 as at 14.
        ChicoryRoasters cut = withLoad(0, 1, 9);
        cut.pass(1);
        cut.setHeat(1, 4);
        cut.pass(1);
        cut.setHeat(1, 1);
        Check.due("roast(1, 5) at the level 13", cut.roast(1, 5), 5);
        Check.due("ready(1) of two days alike", cut.ready(1), 0);
        ChicoryRoasters little = withLoad(1, 1, 9);
        little.pass(1);
        little.setHeat(1, 5);
        little.pass(1);
        Check.due("roast(1, 5) at the level 14", little.roast(1, 5), 1);
        Check.due("ready(1) of a single part", little.ready(1), 0);
    }

    private static void promise21ReadyNever() {
        ChicoryRoasters town = withLoad(0, 1, 9);
        Check.due("ready(0) of an empty drum", town.ready(0), -1);
        Check.due("ready(1)", town.ready(1), 2);
        town.pass(2);
        town.setHeat(1, 5);
        town.pass(1);
        // At the level 23 one root yields 6 / 12, so nothing.
        Check.due("roast(1, 4)", town.roast(1, 4), 23);
        Check.due("ready(1) of too little", town.ready(1), -1);
        town.setHeat(1, 0);
        Check.due("ready(1) of too little that stays", town.ready(1), -1);
        town.setHeat(1, 1);
        town.pass(1);
        Check.due("ready(1) of a burnt load", town.ready(1), -1);
        town.take(1);
        Check.due("ready(1) of an emptied drum", town.ready(1), -1);
        Check.due("ready(1) of a cold load", withLoad(1, 40, 0).ready(1), -1);
    }

    private static void promise22Caught() {
        ChicoryRoasters town = new ChicoryRoasters();
        town.smuggler(4, 12);
        town.smuggler(5, 12);
        Check.dueBoolean("caught(0, 0) without a patrol", town.caught(0, 0), false);
        town.setPatrol(8);
        boolean[] even = {false, false, true, false, false, false, false, false, false, true};
        boolean[] odd = {false, true, false, false, false, false, false, false, true, false};
        for (int days = 0; days < even.length; days++) {
            Check.dueBoolean("caught(0, " + days + ")", town.caught(0, days), even[days]);
            Check.dueBoolean("caught(1, " + days + ")", town.caught(1, days), odd[days]);
        }
        Check.dueBoolean("caught(0, 58)", town.caught(0, 58), true);
        Check.dueBoolean("caught(0, 60)", town.caught(0, 60), false);
        town.pass(9);
        Check.dueBoolean("caught(0, 0) on the day 9", town.caught(0, 0), true);
        Check.dueBoolean("caught(1, 0) on the day 9", town.caught(1, 0), false);
        long before = town.digest();
        town.caught(0, 0);
        Check.due("digest behind caught", town.digest(), before);
    }

    /** What is told of a sending comes, for each way and each weekday. */
    private static void promise22CaughtAsItComes() {
        for (int way = 2; way <= 14; way++) {
            for (int wait = 0; wait <= 7; wait++) {
                ChicoryRoasters town = new ChicoryRoasters();
                town.smuggler(way, 3);
                town.setPatrol(1 + 4 + 32);
                town.pass(5);
                boolean told = town.caught(0, wait);
                if (wait > 0) {
                    town.pass(wait);
                }
                town.send(0);
                town.pass(way);
                Check.dueBoolean("caught(0, " + wait + ") of the way " + way, told, town.told(0, 4) == 1);
            }
        }
    }

    private static void promise22CaughtRefused() {
        ChicoryRoasters town = Towns.busy();
        for (int wrong : new int[] {-1, 3, 4, Integer.MIN_VALUE, Integer.MAX_VALUE}) {
            Check.thrown(town, "caught(" + wrong + ", 61)", Check.INDEX, () -> town.caught(wrong, 61));
        }
        for (int wrong : new int[] {-1, 61, Integer.MIN_VALUE, Integer.MAX_VALUE}) {
            Check.thrown(town, "caught(2, " + wrong + ")", Check.ARGUMENT, () -> town.caught(2, wrong));
            Check.thrown(town, "caught(0, " + wrong + ")", Check.ARGUMENT, () -> town.caught(0, wrong));
        }
        Check.thrown(town, "caught(0, 0) of one who is held", Check.STATE, () -> town.caught(0, 0));
        Check.thrown(town, "caught(1, 0) of one who is away", Check.STATE, () -> town.caught(1, 0));
        Check.dueBoolean("caught(2, 0) of one who is home", town.caught(2, 0), false);
    }

    private static void promise23Advise() {
        ChicoryRoasters town = Towns.withRoasted(10, 5);
        town.card(9, 3);
        town.setShare(7);
        long before = town.digest();
        // With the share 3, 9 portions would need 63 parts of chicory, with 4 only 54 of the 60.
        Check.due("advise(5)", town.advise(5), 4);
        Check.due("advise(28)", town.advise(28), 4);
        Check.due("advise(4)", town.advise(4), 3);
        Check.due("advise(1)", town.advise(1), 3);
        Check.due("digest behind advise", town.digest(), before);
        Check.due("count(7)", town.count(7), 7);
        Check.due("foresee(5, 5) with the share as it is", town.foresee(5, 5), 6);
    }

    private static void promise23AdviseOfSeveralTheSmallest() {
        Check.due("advise(28) of an empty town", new ChicoryRoasters().advise(28), 0);
        ChicoryRoasters plenty = Towns.withRoasted(40, 40);
        plenty.card(2, 0);
        Check.due("advise(1) for a holder who is not picky", plenty.advise(1), 0);
        plenty.card(2, 10);
        Check.due("advise(1) for a picky holder", plenty.advise(1), 10);
        ChicoryRoasters bare = Towns.withRoasted(0, 10);
        bare.card(9, 0);
        Check.due("advise(3) without chicory", bare.advise(3), 10);
    }

    private static void promise23AdviseRefused() {
        ChicoryRoasters town = Towns.busy();
        for (int wrong : new int[] {0, 29, -1, Integer.MIN_VALUE, Integer.MAX_VALUE}) {
            Check.thrown(town, "advise(" + wrong + ")", Check.ARGUMENT, () -> town.advise(wrong));
        }
    }
}
