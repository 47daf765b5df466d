/** A town in a blockade that grows, smuggles, roasts, mixes and rations its coffee. */
public final class ChicoryRoasters {
    private static final int MOST_BEDS = 4;
    private static final int MOST_DRUMS = 4;
    private static final int MOST_SMUGGLERS = 4;
    private static final int MOST_CARDS = 10;

    private static final int MOST_HEAT = 9;
    private static final int MOST_HANDED = 99;
    private static final int MOST_SHARE = 10;
    private static final int MOST_DAYS = 60;
    private static final int MOST_ADVISED_DAYS = 28;
    private static final int DAYS_OF_WEEK = 7;
    private static final int ALL_WEEKDAYS = 127;

    private static final int EMPTY = -1;
    private static final int ROOTS = 0;
    private static final int BEANS = 1;
    private static final int KINDS = 2;

    private static final int HOME = 0;
    private static final int AWAY = 1;
    private static final int HELD = 2;
    private static final int DAYS_HELD = 10;

    private static final int PORTION_PARTS = 10;
    private static final int PORTIONS_A_DAY = 2;

    private final Town town;
    // What would be is tried out here, so that no call makes a town of its own.
    private final Town trial;

    public ChicoryRoasters() {
        town = new Town();
        trial = new Town();
    }

    // ---- the town

    public int bed(int grows, int most) throws IllegalArgumentException, IllegalStateException {
        checkNumber(grows, 0, 9);
        checkNumber(most, 1, 99);
        checkState(town.bedCount < MOST_BEDS);
        town.beds[town.bedCount].lay(grows, most);
        return town.bedCount++;
    }

    public int drum(int holds, int heat) throws IllegalArgumentException, IllegalStateException {
        checkNumber(holds, 1, 40);
        checkNumber(heat, 0, MOST_HEAT);
        checkState(town.drumCount < MOST_DRUMS);
        town.drums[town.drumCount].install(holds, heat);
        return town.drumCount++;
    }

    public int smuggler(int way, int cargo) throws IllegalArgumentException, IllegalStateException {
        checkNumber(way, 2, 14);
        checkNumber(cargo, 1, 30);
        checkState(town.smugglerCount < MOST_SMUGGLERS);
        town.smugglers[town.smugglerCount].hire(way, cargo);
        return town.smugglerCount++;
    }

    public int card(int allotted, int picky) throws IllegalArgumentException, IllegalStateException {
        checkNumber(allotted, 1, 9);
        checkNumber(picky, 0, 10);
        checkState(town.cardCount < MOST_CARDS);
        town.cards[town.cardCount].issue(allotted, picky);
        return town.cardCount++;
    }

    public int setPatrol(int days) throws IllegalArgumentException {
        checkNumber(days, 0, ALL_WEEKDAYS);
        int before = town.patrol;
        town.patrol = days;
        return before;
    }

    public int setShare(int share) throws IllegalArgumentException {
        checkNumber(share, 0, MOST_SHARE);
        int before = town.store.share;
        town.store.share = share;
        return before;
    }

    public int setHeat(int drum, int heat) throws IndexOutOfBoundsException, IllegalArgumentException {
        checkIndex(drum, town.drumCount);
        checkNumber(heat, 0, MOST_HEAT);
        int before = town.drums[drum].heat;
        town.drums[drum].heat = heat;
        return before;
    }

    // ---- work

    public int dig(int bed, int many)
            throws IndexOutOfBoundsException, IllegalArgumentException, IllegalStateException {
        checkIndex(bed, town.bedCount);
        checkNumber(many, 1, MOST_HANDED);
        checkState(town.beds[bed].roots >= many);
        town.beds[bed].roots -= many;
        town.store.add(ROOTS, many);
        return town.beds[bed].roots;
    }

    public int give(int kind, int many) throws IndexOutOfBoundsException, IllegalArgumentException {
        checkIndex(kind, KINDS);
        checkNumber(many, 1, MOST_HANDED);
        town.store.add(kind, many);
        return town.store.stock(kind);
    }

    public int load(int drum, int kind, int many)
            throws IndexOutOfBoundsException, IllegalArgumentException, IllegalStateException {
        checkIndex(drum, town.drumCount);
        checkIndex(kind, KINDS);
        checkNumber(many, 1, town.drums[drum].holds);
        checkState(town.drums[drum].kind == EMPTY);
        checkState(town.store.stock(kind) >= many);
        town.store.add(kind, -many);
        town.drums[drum].fill(kind, many);
        return town.store.stock(kind);
    }

    public int take(int drum) throws IndexOutOfBoundsException, IllegalStateException {
        checkIndex(drum, town.drumCount);
        Drum taken = town.drums[drum];
        checkState(taken.kind != EMPTY);
        int parts = taken.partsAt(taken.level);
        town.store.addRoasted(taken.kind, parts);
        taken.fill(EMPTY, 0);
        return parts;
    }

    public int send(int smuggler) throws IndexOutOfBoundsException, IllegalStateException {
        checkIndex(smuggler, town.smugglerCount);
        checkState(town.smugglers[smuggler].where == HOME);
        town.smugglers[smuggler].setOut();
        return town.smugglers[smuggler].left;
    }

    // ---- what there is

    public int about(int bed, int what) throws IndexOutOfBoundsException {
        checkIndex(bed, town.bedCount);
        return ask(town.beds[bed], what);
    }

    public int roast(int drum, int what) throws IndexOutOfBoundsException {
        checkIndex(drum, town.drumCount);
        return ask(town.drums[drum], what);
    }

    public int told(int smuggler, int what) throws IndexOutOfBoundsException {
        checkIndex(smuggler, town.smugglerCount);
        return ask(town.smugglers[smuggler], what);
    }

    public int ration(int card, int what) throws IndexOutOfBoundsException {
        checkIndex(card, town.cardCount);
        return ask(town.cards[card], what);
    }

    public int count(int what) throws IndexOutOfBoundsException {
        return ask(town, what);
    }

    // ---- days and what would be

    public int pass(int days) throws IllegalArgumentException {
        checkNumber(days, 1, MOST_DAYS);
        return town.live(days);
    }

    public int foresee(int days, int what) throws IllegalArgumentException, IndexOutOfBoundsException {
        checkNumber(days, 1, MOST_DAYS);
        if (what < 1 || what > 6) {
            throw new IndexOutOfBoundsException("only 1 to 6 can be foreseen");
        }
        trial.become(town);
        trial.live(days);
        return trial.tell(what);
    }

    public int ready(int drum) throws IndexOutOfBoundsException {
        checkIndex(drum, town.drumCount);
        return town.drums[drum].daysToBest();
    }

    public boolean caught(int smuggler, int days)
            throws IndexOutOfBoundsException, IllegalArgumentException, IllegalStateException {
        checkIndex(smuggler, town.smugglerCount);
        checkNumber(days, 0, MOST_DAYS);
        checkState(town.smugglers[smuggler].where == HOME);
        // The day of the sending counts already as a day of the way.
        return town.patrolled(town.day + days + town.smugglers[smuggler].daysToBorder() - 1);
    }

    public int advise(int days) throws IllegalArgumentException {
        checkNumber(days, 1, MOST_ADVISED_DAYS);
        int best = 0;
        int most = -1;
        for (int share = 0; share <= MOST_SHARE; share++) {
            trial.become(town);
            trial.store.share = share;
            int portions = trial.live(days);
            if (portions > most) {
                most = portions;
                best = share;
            }
        }
        return best;
    }

    public double mean() {
        if (town.cardCount == 0) {
            return 0;
        }
        return (double) town.store.served / (double) town.cardCount;
    }

    public long digest() {
        long d = town.digestOnto(1723);
        for (int i = 0; i < town.bedCount; i++) {
            d = town.beds[i].digestOnto(d);
        }
        for (int i = 0; i < town.drumCount; i++) {
            d = town.drums[i].digestOnto(d);
        }
        for (int i = 0; i < town.smugglerCount; i++) {
            d = town.smugglers[i].digestOnto(d);
        }
        for (int i = 0; i < town.cardCount; i++) {
            d = town.cards[i].digestOnto(d);
        }
        return d;
    }

    private static void checkIndex(int index, int size) {
        if (index < 0 || index >= size) {
            throw new IndexOutOfBoundsException("there is no such number");
        }
    }

    private static void checkNumber(int number, int least, int most) {
        if (number < least || number > most) {
            throw new IllegalArgumentException("the number is too small or too great");
        }
    }

    private static void checkState(boolean fits) {
        if (!fits) {
            throw new IllegalStateException("this cannot be done as things are");
        }
    }

    private static int ask(Teller teller, int what) {
        checkIndex(what, teller.size());
        return teller.tell(what);
    }

    /** Something that tells numbers about itself, each asked for by its place. */
    private abstract static class Teller {
        /** How many numbers it tells. */
        abstract int size();

        /** The number at a place from 0 to size() - 1. */
        abstract int tell(int what);

        long digestOnto(long before) {
            long d = before;
            int size = size();
            for (int what = 0; what < size; what++) {
                d = d * 31 + tell(what);
            }
            return d;
        }
    }

    private static final class Bed extends Teller {
        int grows;
        int most;
        int roots;

        void lay(int newGrows, int newMost) {
            grows = newGrows;
            most = newMost;
        }

        void grow() {
            roots = Math.min(roots + grows, most);
        }

        void become(Bed other) {
            grows = other.grows;
            most = other.most;
            roots = other.roots;
        }

        int size() {
            return 3;
        }

        int tell(int what) {
            switch (what) {
                case 0:
                    return grows;
                case 1:
                    return most;
                default:
                    return roots;
            }
        }
    }

    private static final class Drum extends Teller {
        int holds;
        int heat;
        int kind = EMPTY;
        int much;
        int level;

        void install(int newHolds, int newHeat) {
            holds = newHolds;
            heat = newHeat;
        }

        void fill(int newKind, int newMuch) {
            kind = newKind;
            much = newMuch;
            level = 0;
        }

        void warm() {
            level = levelAfter(level);
        }

        int levelAfter(int before) {
            if (kind == EMPTY) {
                return 0;
            }
            return Math.min(before + heat, burnt());
        }

        int partsAt(int reached) {
            if (kind == EMPTY || reached < done() || reached >= burnt()) {
                return 0;
            }
            int parts = kind == ROOTS ? 6 : 8;
            return much * parts * (burnt() - reached) / (burnt() - done());
        }

        int done() {
            return kind == ROOTS ? 12 : 8;
        }

        int burnt() {
            return kind == ROOTS ? 24 : 15;
        }

        int daysToBest() {
            int best = -1;
            int most = 0;
            int reached = level;
            for (int days = 0; days <= MOST_DAYS; days++) {
                int parts = partsAt(reached);
                if (parts > most) {
                    most = parts;
                    best = days;
                }
                reached = levelAfter(reached);
            }
            return best;
        }

        void become(Drum other) {
            holds = other.holds;
            heat = other.heat;
            kind = other.kind;
            much = other.much;
            level = other.level;
        }

        int size() {
            return 6;
        }

        int tell(int what) {
            switch (what) {
                case 0:
                    return holds;
                case 1:
                    return heat;
                case 2:
                    return kind;
                case 3:
                    return much;
                case 4:
                    return level;
                default:
                    return partsAt(level);
            }
        }
    }

    private static final class Smuggler extends Teller {
        int way;
        int cargo;
        int where;
        int left;
        int arrests;

        void hire(int newWay, int newCargo) {
            way = newWay;
            cargo = newCargo;
        }

        void setOut() {
            where = AWAY;
            left = way;
        }

        int daysToBorder() {
            return way - way / 2;
        }

        /** Goes on for a day, and tells how many beans come home with it. */
        int travel(boolean patrolled) {
            if (where == HOME) {
                return 0;
            }
            left--;
            if (where == AWAY && left == way / 2 && patrolled) {
                where = HELD;
                left = DAYS_HELD;
                arrests++;
            }
            return left > 0 ? 0 : comeHome();
        }

        int comeHome() {
            int beans = where == AWAY ? cargo : 0;
            where = HOME;
            return beans;
        }

        void become(Smuggler other) {
            way = other.way;
            cargo = other.cargo;
            where = other.where;
            left = other.left;
            arrests = other.arrests;
        }

        int size() {
            return 5;
        }

        int tell(int what) {
            switch (what) {
                case 0:
                    return way;
                case 1:
                    return cargo;
                case 2:
                    return where;
                case 3:
                    return left;
                default:
                    return arrests;
            }
        }
    }

    private static final class Card extends Teller {
        int allotted;
        int picky;
        int left;
        int served;
        int refused;

        void issue(int newAllotted, int newPicky) {
            allotted = newAllotted;
            picky = newPicky;
            left = newAllotted;
        }

        void renew() {
            left = allotted;
        }

        /** Serves what a day allows of this card, and tells how many portions these were. */
        int serveDay(Store store) {
            int portions = 0;
            while (portions < PORTIONS_A_DAY && serveOne(store)) {
                portions++;
            }
            return portions;
        }

        boolean serveOne(Store store) {
            int coffee = store.coffeeOfPortion();
            if (left == 0 || !store.canMix(coffee)) {
                return false;
            }
            if (coffee < picky) {
                refused++;
                return false;
            }
            store.servePortion(coffee);
            left--;
            served++;
            return true;
        }

        void become(Card other) {
            allotted = other.allotted;
            picky = other.picky;
            left = other.left;
            served = other.served;
            refused = other.refused;
        }

        int size() {
            return 5;
        }

        int tell(int what) {
            switch (what) {
                case 0:
                    return allotted;
                case 1:
                    return picky;
                case 2:
                    return left;
                case 3:
                    return served;
                default:
                    return refused;
            }
        }
    }

    /** The store, with the share by which it mixes portions and the portions that left it. */
    private static final class Store {
        int roots;
        int beans;
        int chicory;
        int coffee;
        int share = 5;
        int served;
        int thinned;

        int stock(int kind) {
            return kind == ROOTS ? roots : beans;
        }

        void add(int kind, int many) {
            if (kind == ROOTS) {
                roots += many;
            } else {
                beans += many;
            }
        }

        void addRoasted(int kind, int parts) {
            if (kind == ROOTS) {
                chicory += parts;
            } else {
                coffee += parts;
            }
        }

        int coffeeOfPortion() {
            return Math.min(share, coffee);
        }

        boolean canMix(int coffeeParts) {
            return chicory >= PORTION_PARTS - coffeeParts;
        }

        void servePortion(int coffeeParts) {
            if (coffeeParts < share) {
                thinned++;
            }
            coffee -= coffeeParts;
            chicory -= PORTION_PARTS - coffeeParts;
            served++;
        }

        void become(Store other) {
            roots = other.roots;
            beans = other.beans;
            chicory = other.chicory;
            coffee = other.coffee;
            share = other.share;
            served = other.served;
            thinned = other.thinned;
        }
    }

    private static final class Town extends Teller {
        final Bed[] beds = new Bed[MOST_BEDS];
        final Drum[] drums = new Drum[MOST_DRUMS];
        final Smuggler[] smugglers = new Smuggler[MOST_SMUGGLERS];
        final Card[] cards = new Card[MOST_CARDS];
        final Store store = new Store();
        int bedCount;
        int drumCount;
        int smugglerCount;
        int cardCount;
        int day;
        int patrol;

        Town() {
            for (int i = 0; i < MOST_BEDS; i++) {
                beds[i] = new Bed();
            }
            for (int i = 0; i < MOST_DRUMS; i++) {
                drums[i] = new Drum();
            }
            for (int i = 0; i < MOST_SMUGGLERS; i++) {
                smugglers[i] = new Smuggler();
            }
            for (int i = 0; i < MOST_CARDS; i++) {
                cards[i] = new Card();
            }
        }

        boolean patrolled(int when) {
            return ((patrol >> (when % DAYS_OF_WEEK)) & 1) == 1;
        }

        /** Lets days go by, and tells how many portions are served in them. */
        int live(int days) {
            int portions = 0;
            for (int i = 0; i < days; i++) {
                travel();
                warm();
                grow();
                portions += serve();
                day++;
            }
            return portions;
        }

        void travel() {
            for (int i = 0; i < smugglerCount; i++) {
                store.add(BEANS, smugglers[i].travel(patrolled(day)));
            }
        }

        void warm() {
            for (int i = 0; i < drumCount; i++) {
                drums[i].warm();
            }
        }

        void grow() {
            for (int i = 0; i < bedCount; i++) {
                beds[i].grow();
            }
        }

        int serve() {
            int portions = 0;
            for (int i = 0; i < cardCount; i++) {
                if (day % DAYS_OF_WEEK == 0) {
                    cards[i].renew();
                }
                portions += cards[i].serveDay(store);
            }
            return portions;
        }

        void become(Town other) {
            day = other.day;
            patrol = other.patrol;
            store.become(other.store);
            bedCount = other.bedCount;
            for (int i = 0; i < bedCount; i++) {
                beds[i].become(other.beds[i]);
            }
            drumCount = other.drumCount;
            for (int i = 0; i < drumCount; i++) {
                drums[i].become(other.drums[i]);
            }
            smugglerCount = other.smugglerCount;
            for (int i = 0; i < smugglerCount; i++) {
                smugglers[i].become(other.smugglers[i]);
            }
            cardCount = other.cardCount;
            for (int i = 0; i < cardCount; i++) {
                cards[i].become(other.cards[i]);
            }
        }

        int size() {
            return 9;
        }

        int tell(int what) {
            switch (what) {
                case 0:
                    return day;
                case 1:
                    return store.roots;
                case 2:
                    return store.beans;
                case 3:
                    return store.chicory;
                case 4:
                    return store.coffee;
                case 5:
                    return store.served;
                case 6:
                    return store.thinned;
                case 7:
                    return store.share;
                default:
                    return patrol;
            }
        }
    }
}
