/** Promises 24 and 25: the mean and the checksum. */
public final class SumsTest {
    private SumsTest() {
    }

    public static void main(String[] args) {
        promise24Mean();
        promise25DigestOfANewTown();
        promise25DigestOfABusyTown();
        promise25DigestWrapsAround();
        Check.finish("SumsTest");
    }

    private static void promise24Mean() {
        Check.dueDouble("mean() of a new town", new ChicoryRoasters().mean(), 0.0);
        ChicoryRoasters town = Towns.withRoasted(5, 0);
        town.setShare(0);
        town.card(9, 0);
        Check.dueDouble("mean() of nothing served", town.mean(), 0.0);
        town.card(9, 0);
        town.pass(1);
        Check.dueDouble("mean() of 3 for 2 cards", town.mean(), 1.5);
        town.card(9, 0);
        town.card(9, 0);
        Check.dueDouble("mean() of 3 for 4 cards", town.mean(), 0.75);
        for (int card = 4; card < 7; card++) {
            town.card(9, 0);
        }
        Check.dueDouble("mean() of 3 for 7 cards", town.mean(), 3.0 / 7.0);
    }

    private static void promise25DigestOfANewTown() {
        long d = 1723;
        for (int x : new int[] {0, 0, 0, 0, 0, 0, 0, 5, 0}) {
            d = d * 31 + x;
        }
        Check.due("digest() of a new town", new ChicoryRoasters().digest(), d);
    }

    private static void promise25DigestOfABusyTown() {
        ChicoryRoasters town = Towns.busy();
        Check.due("digest()", town.digest(), Towns.checksum(town, 2, 2, 3, 2));
        town.pass(60);
        Check.due("digest() later on", town.digest(), Towns.checksum(town, 2, 2, 3, 2));
    }

    private static void promise25DigestWrapsAround() {
        ChicoryRoasters town = new ChicoryRoasters();
        for (int i = 0; i < 4; i++) {
            town.bed(9 - i, 99 - i);
            town.drum(40 - i, 9 - i);
            town.smuggler(14 - i, 30 - i);
        }
        for (int i = 0; i < 10; i++) {
            town.card(9, 10 - i);
        }
        Check.due("digest() of a full town", town.digest(), Towns.checksum(town, 4, 4, 4, 10));
    }
}
