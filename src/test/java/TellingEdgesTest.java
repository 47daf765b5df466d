import java.util.function.IntBinaryOperator;
import java.util.function.Supplier;

/** The edges of promises 14 to 18: the first and the last that is told, and what there is not. */
public final class TellingEdgesTest {
    private static final Supplier<ChicoryRoasters> EMPTY = ChicoryRoasters::new;
    private static final Supplier<ChicoryRoasters> BUSY = Towns::busy;
    private static final Supplier<ChicoryRoasters> FULL = Towns::full;

    private interface Telling {
        int ask(ChicoryRoasters town, int number, int what);
    }

    private TellingEdgesTest() {
    }

    public static void main(String[] args) {
        promise14FirstAndLastBed();
        promise14NoSuchBed();
        promise14WhatOutOf0To2();
        promise15FirstAndLastDrum();
        promise15EmptyDrumTells0();
        promise15NoSuchDrum();
        promise15WhatOutOf0To5();
        promise16FirstAndLastSmuggler();
        promise16NoSuchSmuggler();
        promise16WhatOutOf0To4();
        promise17FirstAndLastCard();
        promise17NoSuchCard();
        promise17WhatOutOf0To4();
        promise18EachCount();
        promise18WhatOutOf0To8();
        tellingChangesNothing();
        Check.finish("TellingEdgesTest");
    }

    private static void dueRow(String name, int number, IntBinaryOperator ask, int... want) {
        for (int what = 0; what < want.length; what++) {
            String call = name + "(" + number + ", " + what + ")";
            Check.due(call, ask.applyAsInt(number, what), want[what]);
        }
    }

    /** Without any, with some and with all places taken: what lies just beyond, and far off, with each good what. */
    private static void noSuchNumber(String name, Telling telling, int some, int all, int lastWhat) {
        for (int what = 0; what <= lastWhat; what++) {
            int good = what;
            String end = ", " + what + ")";
            Refusal.due(Check.INDEX, EMPTY, name + "(0" + end + " of none", town -> telling.ask(town, 0, good));
            for (int wrong : Refusal.beyond(0, some - 1)) {
                Refusal.due(Check.INDEX, BUSY, name + "(" + wrong + end, town -> telling.ask(town, wrong, good));
            }
            for (int wrong : Refusal.beyond(0, all - 1)) {
                Refusal.due(Check.INDEX, FULL, name + "(" + wrong + end, town -> telling.ask(town, wrong, good));
            }
        }
    }

    /** Of the first, of the last and of none such: what lies just beyond, and far off. */
    private static void noSuchWhat(String name, Telling telling, int all, int lastWhat) {
        for (int number : new int[] {0, all - 1, all, -1}) {
            for (int wrong : Refusal.beyond(0, lastWhat)) {
                String call = name + "(" + number + ", " + wrong + ")";
                Refusal.due(Check.INDEX, FULL, call, town -> telling.ask(town, number, wrong));
            }
        }
    }

    /** "0 how many roots grow a day, 1 how many it has at most, 2 its roots". */
    private static void promise14FirstAndLastBed() {
        ChicoryRoasters town = Towns.full();
        dueRow("about", 0, town::about, 0, 1, 0);
        dueRow("about", 1, town::about, 9, 99, 27);
        dueRow("about", 2, town::about, 3, 4, 4);
        dueRow("about", 3, town::about, 5, 50, 15);
    }

    private static void promise14NoSuchBed() {
        noSuchNumber("about", ChicoryRoasters::about, 2, 4, 2);
    }

    private static void promise14WhatOutOf0To2() {
        noSuchWhat("about", ChicoryRoasters::about, 4, 2);
    }

    /** "2 of what its load is, 0 roots, 1 beans, -1 if it is empty, 3 how much its load is, 4 its level". */
    private static void promise15FirstAndLastDrum() {
        ChicoryRoasters town = Towns.full();
        dueRow("roast", 1, town::roast, 10, 3, 0, 10, 9, 0);
        dueRow("roast", 3, town::roast, 5, 9, 1, 5, 15, 0);
        town.pass(1);
        dueRow("roast", 1, town::roast, 10, 3, 0, 10, 12, 60);
    }

    /** "0 for 3 to 5, if it is empty": as it is new, as its load was taken, and behind days without a load. */
    private static void promise15EmptyDrumTells0() {
        ChicoryRoasters fresh = new ChicoryRoasters();
        fresh.drum(7, 9);
        dueRow("roast", 0, fresh::roast, 7, 9, -1, 0, 0, 0);
        fresh.pass(5);
        dueRow("roast", 0, fresh::roast, 7, 9, -1, 0, 0, 0);
        ChicoryRoasters town = Towns.full();
        dueRow("roast", 0, town::roast, 40, 8, -1, 0, 0, 0);
        dueRow("roast", 2, town::roast, 40, 7, -1, 0, 0, 0);
        town.take(1);
        dueRow("roast", 1, town::roast, 10, 3, -1, 0, 0, 0);
    }

    private static void promise15NoSuchDrum() {
        noSuchNumber("roast", ChicoryRoasters::roast, 2, 4, 5);
    }

    private static void promise15WhatOutOf0To5() {
        noSuchWhat("roast", ChicoryRoasters::roast, 4, 5);
    }

    /** "2 0 if home, 1 if away, 2 if held, 3 the days that are left, 0 if home, 4 how often this one was caught". */
    private static void promise16FirstAndLastSmuggler() {
        ChicoryRoasters town = Towns.full();
        dueRow("told", 0, town::told, 2, 30, 0, 0, 0);
        dueRow("told", 1, town::told, 14, 1, 1, 11, 0);
        dueRow("told", 2, town::told, 4, 12, 2, 9, 1);
        dueRow("told", 3, town::told, 7, 20, 0, 0, 0);
        town.pass(9);
        dueRow("told", 2, town::told, 4, 12, 0, 0, 1);
    }

    private static void promise16NoSuchSmuggler() {
        noSuchNumber("told", ChicoryRoasters::told, 3, 4, 4);
    }

    private static void promise16WhatOutOf0To4() {
        noSuchWhat("told", ChicoryRoasters::told, 4, 4);
    }

    /** "2 what is left, 3 portions that were served for it in all, 4 how often one was refused in all". */
    private static void promise17FirstAndLastCard() {
        ChicoryRoasters town = Towns.full();
        dueRow("ration", 0, town::ration, 1, 0, 0, 1, 0);
        dueRow("ration", 6, town::ration, 7, 6, 5, 2, 0);
        dueRow("ration", 7, town::ration, 8, 7, 8, 0, 1);
        dueRow("ration", 9, town::ration, 1, 9, 1, 0, 1);
    }

    private static void promise17NoSuchCard() {
        noSuchNumber("ration", ChicoryRoasters::ration, 2, 10, 4);
    }

    private static void promise17WhatOutOf0To4() {
        noSuchWhat("ration", ChicoryRoasters::ration, 10, 4);
    }

    /** "0 the day" to "8 the days of the patrol, as bits". */
    private static void promise18EachCount() {
        ChicoryRoasters town = Towns.full();
        int[] want = {3, 49, 54, 148, 242, 13, 0, 6, 2};
        for (int what = 0; what <= 8; what++) {
            Check.due("count(" + what + ")", town.count(what), want[what]);
        }
    }

    private static void promise18WhatOutOf0To8() {
        for (int wrong : Refusal.beyond(0, 8)) {
            Refusal.due(Check.INDEX, EMPTY, "count(" + wrong + ")", town -> town.count(wrong));
            Refusal.due(Check.INDEX, FULL, "count(" + wrong + ")", town -> town.count(wrong));
        }
    }

    /** What tells, and what foresees, leaves a town as one that was never asked. */
    private static void tellingChangesNothing() {
        ChicoryRoasters asked = Towns.full();
        String first = Tellings.of(asked);
        Check.verdict(first.equals(Tellings.of(asked)), "a town that is asked twice tells otherwise");
        ChicoryRoasters unasked = Towns.full();
        asked.pass(30);
        unasked.pass(30);
        Check.due("digest of a town that was asked", asked.digest(), unasked.digest());
    }
}
