/** Promises 19 to 21: hauls, their grams and the shares by them. */
public final class HaulsTest {
    private static final Checks CHECKS = new Checks();

    public static void main(String[] args) {
        hauls();
        grams();
        shares();
        greatShares();
        manyHauls();
        wrongShares();
        CHECKS.end();
    }

    private static void hauls() {
        KindTables x = new KindTables(1, 1);
        CHECKS.refused("19: x 101", Checks.ARGUMENT, () -> x.haul(101, 0));
        CHECKS.refused("19: x -101", Checks.ARGUMENT, () -> x.haul(-101, 0));
        CHECKS.refused("19: y 101", Checks.ARGUMENT, () -> x.haul(0, 101));
        CHECKS.refused("19: y -101", Checks.ARGUMENT, () -> x.haul(0, -101));
        for (int i = 0; i < 12; i++) {
            CHECKS.due("19: haul", i, x.haul(i % 2 == 0 ? 100 : -100, i % 3 == 0 ? 100 : -100));
        }
        CHECKS.refused("19: 13th", Checks.STATE, () -> x.haul(0, 0));
        CHECKS.refused("19: 13th at no place", Checks.ARGUMENT, () -> x.haul(0, 101));
        CHECKS.due("19: all kept", 12, x.count(2));
    }

    private static void grams() {
        KindTables x = new KindTables(2, 1);
        x.haul(0, 0);
        CHECKS.due("20: 0 at first", 0, x.grams(0, 1, 1000));
        CHECKS.due("20: was 1000", 1000, x.grams(0, 1, 7));
        CHECKS.due("20: other kind", 0, x.grams(0, 0, 0));
        CHECKS.refused("20: -1", Checks.ARGUMENT, () -> x.grams(0, 1, -1));
        CHECKS.refused("20: 1001", Checks.ARGUMENT, () -> x.grams(0, 1, 1001));
        CHECKS.refused("20: no haul", Checks.INDEX, () -> x.grams(1, 0, -1));
        CHECKS.refused("20: haul -1", Checks.INDEX, () -> x.grams(-1, 0, 0));
        CHECKS.refused("20: no kind", Checks.INDEX, () -> x.grams(0, 2, 1001));
        CHECKS.refused("20: kind -1", Checks.INDEX, () -> x.grams(0, -1, 0));
        CHECKS.due("20: nothing changed", 7, x.grams(0, 1, 0));
    }

    private static void share(KindTables x, int[] place, int kind, long above, long below) {
        String call = "21: share at " + place[0] + ", " + place[1] + " of " + kind;
        CHECKS.due(call + ", above", above, x.share(place[0], place[1], kind, 0));
        CHECKS.due(call + ", below", below, x.share(place[0], place[1], kind, 1));
    }

    private static void shares() {
        KindTables x = new KindTables(3, 1);
        share(x, new int[] {0, 0}, 0, 0, 1);
        x.haul(0, 0);
        share(x, new int[] {0, 0}, 0, 0, 1);
        x.grams(0, 0, 6);
        x.grams(0, 1, 3);
        share(x, new int[] {100, -100}, 0, 2, 3);
        share(x, new int[] {100, -100}, 1, 1, 3);
        share(x, new int[] {100, -100}, 2, 0, 1);
        x.haul(2, 0);
        share(x, new int[] {2, 0}, 0, 2, 3);
        x.grams(1, 2, 4);
        // Weights 1 by 1 and 1 by 5.
        share(x, new int[] {0, 0}, 2, 1, 6);
        share(x, new int[] {0, 0}, 0, 5, 9);
        share(x, new int[] {2, 0}, 2, 5, 6);
        share(x, new int[] {1, 0}, 2, 1, 2);
        x.haul(0, 0);
        x.grams(2, 1, 9);
        // Haul 2 is nearer than haul 1; at 1, 0 all three are as near, and the lesser two count.
        share(x, new int[] {0, 0}, 2, 0, 1);
        share(x, new int[] {0, 0}, 1, 2, 3);
        share(x, new int[] {1, 0}, 2, 1, 2);
        share(x, new int[] {1, 0}, 1, 1, 6);
        x.grams(0, 0, 0);
        x.grams(0, 1, 0);
        share(x, new int[] {0, 0}, 1, 5, 6);
    }

    private static void greatShares() {
        KindTables x = new KindTables(6, 1);
        x.haul(100, 100);
        x.haul(100, 99);
        for (int kind = 0; kind < 6; kind++) {
            x.grams(0, kind, 1000 - kind);
            x.grams(1, kind, 999 - kind * 2);
        }
        // 1000 / 5985 by 80001 and 999 / 5964 by 79602.
        share(x, new int[] {-100, -100}, 0, 432232883L, 2583653364L);
    }

    private static void manyHauls() {
        KindTables x = new KindTables(2, 1);
        for (int i = 0; i < 12; i++) {
            x.haul(i, 0);
        }
        share(x, new int[] {11, 0}, 1, 0, 1);
        x.grams(11, 1, 1);
        share(x, new int[] {0, 0}, 1, 1, 1);
        x.grams(0, 0, 1);
        share(x, new int[] {11, 0}, 1, 122, 123);
        share(x, new int[] {11, 0}, 0, 1, 123);
    }

    private static void wrongShares() {
        KindTables x = new KindTables(2, 1);
        CHECKS.refused("21: x 101", Checks.ARGUMENT, () -> x.share(101, 0, 0, 0));
        CHECKS.refused("21: x -101", Checks.ARGUMENT, () -> x.share(-101, 0, 0, 0));
        CHECKS.refused("21: y 101", Checks.ARGUMENT, () -> x.share(0, 101, 0, 0));
        CHECKS.refused("21: y -101", Checks.ARGUMENT, () -> x.share(0, -101, 0, 0));
        CHECKS.refused("21: no kind", Checks.INDEX, () -> x.share(101, 0, 2, 0));
        CHECKS.refused("21: kind -1", Checks.INDEX, () -> x.share(0, 0, -1, 0));
        CHECKS.refused("21: part 2", Checks.INDEX, () -> x.share(0, 101, 0, 2));
        CHECKS.refused("21: part -1", Checks.INDEX, () -> x.share(0, 0, 0, -1));
    }
}
