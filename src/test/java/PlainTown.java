import java.util.ArrayList;
import java.util.List;

/**
 * A second town, written from the document in another way, to test the first against: it keeps the days on which
 * things happen instead of counting them down, and answers in text, an exception by its name.
 */
final class PlainTown {
    static final String ARGUMENT = "IllegalArgumentException";
    static final String STATE = "IllegalStateException";
    static final String INDEX = "IndexOutOfBoundsException";

    private static final class Bed {
        int grows;
        int most;
        int roots;
    }

    private static final class Drum {
        int holds;
        int heat;
        int kind = -1;
        int much;
        int level;
    }

    private static final class Smuggler {
        int way;
        int cargo;
        int borderDay = -1;
        int homeDay = -1;
        boolean held;
        int arrests;
    }

    private static final class Card {
        int allotted;
        int picky;
        int servedThisWeek;
        int served;
        int refused;
    }

    private final List<Bed> beds = new ArrayList<>();
    private final List<Drum> drums = new ArrayList<>();
    private final List<Smuggler> smugglers = new ArrayList<>();
    private final List<Card> cards = new ArrayList<>();
    private final int[] raw = new int[2];
    private final int[] roasted = new int[2];
    private int day;
    private int share = 5;
    private int patrol;
    private int served;
    private int thinned;

    String answer(String call, int a, int b, int c) {
        switch (call) {
            case "bed":
                return bed(a, b);
            case "drum":
                return drum(a, b);
            case "smuggler":
                return smuggler(a, b);
            case "card":
                return card(a, b);
            case "setPatrol":
                return setPatrol(a);
            case "setShare":
                return setShare(a);
            case "setHeat":
                return setHeat(a, b);
            case "dig":
                return dig(a, b);
            case "give":
                return give(a, b);
            case "load":
                return load(a, b, c);
            case "take":
                return take(a);
            case "send":
                return send(a);
            default:
                return asked(call, a, b);
        }
    }

    private String asked(String call, int a, int b) {
        switch (call) {
            case "about":
                return a < 0 || a >= beds.size() ? INDEX : at(about(beds.get(a)), b);
            case "roast":
                return a < 0 || a >= drums.size() ? INDEX : at(roast(drums.get(a)), b);
            case "told":
                return a < 0 || a >= smugglers.size() ? INDEX : at(told(smugglers.get(a)), b);
            case "ration":
                return a < 0 || a >= cards.size() ? INDEX : at(ration(cards.get(a)), b);
            case "count":
                return at(count(), a);
            case "pass":
                return a < 1 || a > 60 ? ARGUMENT : "" + pass(a);
            case "foresee":
                return foresee(a, b);
            case "ready":
                return ready(a);
            case "caught":
                return caught(a, b);
            case "advise":
                return advise(a);
            case "mean":
                return "" + (cards.isEmpty() ? 0.0 : (double) served / cards.size());
            case "digest":
                return "" + digest();
            default:
                throw new AssertionError("no such call: " + call);
        }
    }

    private String bed(int grows, int most) {
        if (grows < 0 || grows > 9 || most < 1 || most > 99) {
            return ARGUMENT;
        }
        if (beds.size() == 4) {
            return STATE;
        }
        Bed bed = new Bed();
        bed.grows = grows;
        bed.most = most;
        beds.add(bed);
        return "" + (beds.size() - 1);
    }

    private String drum(int holds, int heat) {
        if (holds < 1 || holds > 40 || heat < 0 || heat > 9) {
            return ARGUMENT;
        }
        if (drums.size() == 4) {
            return STATE;
        }
        Drum drum = new Drum();
        drum.holds = holds;
        drum.heat = heat;
        drums.add(drum);
        return "" + (drums.size() - 1);
    }

    private String smuggler(int way, int cargo) {
        if (way < 2 || way > 14 || cargo < 1 || cargo > 30) {
            return ARGUMENT;
        }
        if (smugglers.size() == 4) {
            return STATE;
        }
        Smuggler smuggler = new Smuggler();
        smuggler.way = way;
        smuggler.cargo = cargo;
        smugglers.add(smuggler);
        return "" + (smugglers.size() - 1);
    }

    private String card(int allotted, int picky) {
        if (allotted < 1 || allotted > 9 || picky < 0 || picky > 10) {
            return ARGUMENT;
        }
        if (cards.size() == 10) {
            return STATE;
        }
        Card card = new Card();
        card.allotted = allotted;
        card.picky = picky;
        cards.add(card);
        return "" + (cards.size() - 1);
    }

    private String setPatrol(int days) {
        if (days < 0 || days > 127) {
            return ARGUMENT;
        }
        String before = "" + patrol;
        patrol = days;
        return before;
    }

    private String setShare(int newShare) {
        if (newShare < 0 || newShare > 10) {
            return ARGUMENT;
        }
        String before = "" + share;
        share = newShare;
        return before;
    }

    private String setHeat(int number, int heat) {
        if (number < 0 || number >= drums.size()) {
            return INDEX;
        }
        if (heat < 0 || heat > 9) {
            return ARGUMENT;
        }
        String before = "" + drums.get(number).heat;
        drums.get(number).heat = heat;
        return before;
    }

    private String dig(int number, int many) {
        if (number < 0 || number >= beds.size()) {
            return INDEX;
        }
        if (many < 1 || many > 99) {
            return ARGUMENT;
        }
        Bed bed = beds.get(number);
        if (bed.roots < many) {
            return STATE;
        }
        bed.roots -= many;
        raw[0] += many;
        return "" + bed.roots;
    }

    private String give(int kind, int many) {
        if (kind != 0 && kind != 1) {
            return INDEX;
        }
        if (many < 1 || many > 99) {
            return ARGUMENT;
        }
        raw[kind] += many;
        return "" + raw[kind];
    }

    private String load(int number, int kind, int many) {
        if (number < 0 || number >= drums.size() || kind != 0 && kind != 1) {
            return INDEX;
        }
        Drum drum = drums.get(number);
        if (many < 1 || many > drum.holds) {
            return ARGUMENT;
        }
        if (drum.kind != -1 || raw[kind] < many) {
            return STATE;
        }
        raw[kind] -= many;
        drum.kind = kind;
        drum.much = many;
        drum.level = 0;
        return "" + raw[kind];
    }

    private String take(int number) {
        if (number < 0 || number >= drums.size()) {
            return INDEX;
        }
        Drum drum = drums.get(number);
        if (drum.kind == -1) {
            return STATE;
        }
        int parts = parts(drum.kind, drum.much, drum.level);
        roasted[drum.kind] += parts;
        drum.kind = -1;
        return "" + parts;
    }

    private String send(int number) {
        if (number < 0 || number >= smugglers.size()) {
            return INDEX;
        }
        Smuggler smuggler = smugglers.get(number);
        if (!isHome(smuggler)) {
            return STATE;
        }
        smuggler.borderDay = day + (smuggler.way + 1) / 2 - 1;
        smuggler.homeDay = day + smuggler.way;
        smuggler.held = false;
        return "" + smuggler.way;
    }

    /** The home day is the first day that begins with this one at home. */
    private boolean isHome(Smuggler smuggler) {
        return day >= smuggler.homeDay;
    }

    private static int parts(int kind, int much, int level) {
        int done = kind == 0 ? 12 : 8;
        int burnt = kind == 0 ? 24 : 15;
        if (level < done || level >= burnt) {
            return 0;
        }
        return much * (kind == 0 ? 6 : 8) * (burnt - level) / (burnt - done);
    }

    private static String at(int[] row, int what) {
        return what < 0 || what >= row.length ? INDEX : "" + row[what];
    }

    private static int[] about(Bed bed) {
        return new int[] {bed.grows, bed.most, bed.roots};
    }

    private static int[] roast(Drum drum) {
        if (drum.kind == -1) {
            return new int[] {drum.holds, drum.heat, -1, 0, 0, 0};
        }
        int parts = parts(drum.kind, drum.much, drum.level);
        return new int[] {drum.holds, drum.heat, drum.kind, drum.much, drum.level, parts};
    }

    private int[] told(Smuggler smuggler) {
        int where = isHome(smuggler) ? 0 : smuggler.held ? 2 : 1;
        int left = isHome(smuggler) ? 0 : smuggler.homeDay - day;
        return new int[] {smuggler.way, smuggler.cargo, where, left, smuggler.arrests};
    }

    private static int[] ration(Card card) {
        int left = card.allotted - card.servedThisWeek;
        return new int[] {card.allotted, card.picky, left, card.served, card.refused};
    }

    private int[] count() {
        return new int[] {day, raw[0], raw[1], roasted[0], roasted[1], served, thinned, share, patrol};
    }

    private int pass(int days) {
        int before = served;
        for (int i = 0; i < days; i++) {
            smugglers.forEach(this::goOn);
            drums.forEach(drum -> drum.level = Math.min(drum.level + drum.heat, drum.kind == 1 ? 15 : 24));
            beds.forEach(bed -> bed.roots += Math.min(bed.grows, bed.most - bed.roots));
            if (day % 7 == 0) {
                cards.forEach(card -> card.servedThisWeek = 0);
            }
            cards.forEach(this::serve);
            day++;
        }
        return served - before;
    }

    private void goOn(Smuggler smuggler) {
        if (isHome(smuggler)) {
            return;
        }
        if (!smuggler.held && day == smuggler.borderDay && isPatrolled(day)) {
            smuggler.held = true;
            smuggler.arrests++;
            smuggler.homeDay = day + 11;
        }
        if (!smuggler.held && day + 1 == smuggler.homeDay) {
            raw[1] += smuggler.cargo;
        }
    }

    private boolean isPatrolled(int when) {
        return Integer.toBinaryString(128 + patrol).charAt(7 - when % 7) == '1';
    }

    private void serve(Card card) {
        for (int i = 0; i < 2 && card.servedThisWeek < card.allotted; i++) {
            int coffee = roasted[1] < share ? roasted[1] : share;
            if (roasted[0] + coffee < 10) {
                return;
            }
            if (coffee < card.picky) {
                card.refused++;
                return;
            }
            roasted[0] -= 10 - coffee;
            roasted[1] -= coffee;
            card.servedThisWeek++;
            card.served++;
            served++;
            thinned += coffee < share ? 1 : 0;
        }
    }

    private String foresee(int days, int what) {
        if (days < 1 || days > 60) {
            return ARGUMENT;
        }
        if (what < 1 || what > 6) {
            return INDEX;
        }
        PlainTown copy = copy();
        copy.pass(days);
        return "" + copy.count()[what];
    }

    private String ready(int number) {
        if (number < 0 || number >= drums.size()) {
            return INDEX;
        }
        Drum drum = drums.get(number);
        if (drum.kind == -1) {
            return "-1";
        }
        int most = 0;
        for (int days = 60; days >= 0; days--) {
            most = Math.max(most, partsBehind(drum, days));
        }
        for (int days = 0; most > 0; days++) {
            if (partsBehind(drum, days) == most) {
                return "" + days;
            }
        }
        return "-1";
    }

    private static int partsBehind(Drum drum, int days) {
        return parts(drum.kind, drum.much, drum.level + days * drum.heat);
    }

    private String caught(int number, int days) {
        if (number < 0 || number >= smugglers.size()) {
            return INDEX;
        }
        if (days < 0 || days > 60) {
            return ARGUMENT;
        }
        Smuggler smuggler = smugglers.get(number);
        if (!isHome(smuggler)) {
            return STATE;
        }
        return isPatrolled(day + days + (smuggler.way + 1) / 2 - 1) ? "true" : "false";
    }

    private String advise(int days) {
        if (days < 1 || days > 28) {
            return ARGUMENT;
        }
        int best = 10;
        int most = -1;
        for (int tried = 10; tried >= 0; tried--) {
            PlainTown copy = copy();
            copy.share = tried;
            int portions = copy.pass(days);
            if (portions >= most) {
                most = portions;
                best = tried;
            }
        }
        return "" + best;
    }

    private long digest() {
        List<int[]> rows = new ArrayList<>();
        rows.add(count());
        beds.forEach(bed -> rows.add(about(bed)));
        drums.forEach(drum -> rows.add(roast(drum)));
        smugglers.forEach(smuggler -> rows.add(told(smuggler)));
        cards.forEach(card -> rows.add(ration(card)));
        long d = 1723;
        for (int[] row : rows) {
            for (int x : row) {
                d = d * 31 + x;
            }
        }
        return d;
    }

    private PlainTown copy() {
        PlainTown copy = new PlainTown();
        for (Bed bed : beds) {
            copy.bed(bed.grows, bed.most);
            copy.beds.get(copy.beds.size() - 1).roots = bed.roots;
        }
        for (Smuggler smuggler : smugglers) {
            copy.smuggler(smuggler.way, smuggler.cargo);
            Smuggler same = copy.smugglers.get(copy.smugglers.size() - 1);
            same.borderDay = smuggler.borderDay;
            same.homeDay = smuggler.homeDay;
            same.held = smuggler.held;
        }
        for (Card card : cards) {
            copy.card(card.allotted, card.picky);
            copy.cards.get(copy.cards.size() - 1).servedThisWeek = card.servedThisWeek;
        }
        System.arraycopy(raw, 0, copy.raw, 0, 2);
        System.arraycopy(roasted, 0, copy.roasted, 0, 2);
        copy.day = day;
        copy.share = share;
        copy.patrol = patrol;
        copy.served = served;
        copy.thinned = thinned;
        return copy;
    }
}
