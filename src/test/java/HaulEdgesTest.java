/** The edges that promises 19 to 21 name, a method for each sentence. */
public final class HaulEdgesTest {
    private static final Checks CHECKS = new Checks();
    private static final Edges EDGES = new Edges(CHECKS);
    private static final Scene[] WITH_HAULS = {Scene.SOME, Scene.FULL};
    private static final Scene[] WITH_ROOM = {Scene.EMPTY, Scene.SOME};

    public static void main(String[] args) {
        haulOutside();
        haulNumbers();
        thereAre12();
        gramsOfNone();
        gramsOutside();
        gramsWereNothingAtFirst();
        shareWithoutHauls();
        shareOfOneHaulAlone();
        shareOfTheTwoNearest();
        shareOfSeveralTheLeast();
        shareByHaulsWithAnyGrams();
        shareByWeights();
        shareWithoutCommonDivisor();
        shareAsGreatAsCanBe();
        shareOfNone();
        shareOutside();
        CHECKS.end();
    }

    /** Promise 19: "IllegalArgumentException: x or y is not -100 .. 100". */
    private static void haulOutside() {
        for (Scene scene : WITH_ROOM) {
            int[] ends = {-100, 100};
            EDGES.range(scene, "19: x is not -100 .. 100", Checks.ARGUMENT, ends, (x, n) -> x.haul(n, 0));
            EDGES.range(scene, "19: y is not -100 .. 100", Checks.ARGUMENT, ends, (x, n) -> x.haul(0, n));
            EDGES.refused(scene, "19: neither is", Checks.ARGUMENT, x -> x.haul(101, -101));
        }
    }

    /** Promise 19: "A HAUL more at a place: its number". */
    private static void haulNumbers() {
        KindTables x = new KindTables(1, 1);
        CHECKS.due("19: the first, in a corner", 0, x.haul(-100, -100));
        CHECKS.due("19: the next, in another", 1, x.haul(100, 100));
        CHECKS.due("19: one more at the same place", 2, x.haul(100, 100));
        CHECKS.due("19: three", 3, x.count(2));
    }

    /** Promise 19: "IllegalStateException: there are 12". */
    private static void thereAre12() {
        KindTables x = new KindTables(1, 1);
        for (int i = 0; i < 12; i++) {
            CHECKS.due("19: there is room for 12, all at one place", i, x.haul(-100, 100));
        }
        CHECKS.refused("19: there are 12", Checks.STATE, () -> x.haul(-100, 100));
        CHECKS.due("19: there are 12 still", 12, x.count(2));
        CHECKS.due("19: the last one can be used", 0, x.grams(11, 0, 1));
        EDGES.refused(Scene.FULL, "19: there are 12", Checks.STATE, y -> y.haul(0, 0));
        EDGES.refused(Scene.FULL, "19: there are 12, in a corner", Checks.STATE, y -> y.haul(100, -100));
    }

    /** Promise 20: "IndexOutOfBoundsException". */
    private static void gramsOfNone() {
        for (Scene scene : Scene.ALL) {
            EDGES.range(scene, "20: grams of haul", Checks.INDEX, new int[] {0, scene.hauls - 1}, (x, n) -> x.grams(n, 0, 5));
        }
        for (Scene scene : WITH_HAULS) {
            EDGES.range(scene, "20: grams of kind", Checks.INDEX, new int[] {0, scene.kinds - 1}, (x, n) -> x.grams(0, n, 5));
        }
    }

    /** Promise 20: "IllegalArgumentException: g is not 0 .. 1000". */
    private static void gramsOutside() {
        for (Scene scene : WITH_HAULS) {
            EDGES.range(scene, "20: g is not 0 .. 1000", Checks.ARGUMENT, new int[] {0, 1000},
                    (x, n) -> x.grams(scene.hauls - 1, scene.kinds - 1, n));
        }
    }

    /** Terms: "grams of kinds (0 at first)"; promise 20: "what they were". */
    private static void gramsWereNothingAtFirst() {
        KindTables x = new KindTables(6, 1);
        for (int haul = 0; haul < 12; haul++) {
            x.haul(haul, haul);
            for (int kind = 0; kind < 6; kind++) {
                CHECKS.due("20: 0 at first, whatever others have", 0, x.grams(haul, kind, 1000 - haul * 6 - kind));
            }
        }
        for (int haul = 0; haul < 12; haul++) {
            for (int kind = 0; kind < 6; kind++) {
                CHECKS.due("20: what they were", 1000 - haul * 6 - kind, x.grams(haul, kind, 0));
            }
        }
        CHECKS.due("20: back to 0", 0, x.grams(11, 5, 1000));
    }

    private static void share(String text, KindTables x, int[] placeAndKind, long above, long below) {
        CHECKS.due("21: " + text + ", above", above, x.share(placeAndKind[0], placeAndKind[1], placeAndKind[2], 0));
        CHECKS.due("21: " + text + ", below", below, x.share(placeAndKind[0], placeAndKind[1], placeAndKind[2], 1));
    }

    /** Terms: "0 without". */
    private static void shareWithoutHauls() {
        KindTables x = new KindTables(2, 1);
        share("no hauls", x, new int[] {0, 0, 1}, 0, 1);
        x.haul(0, 0);
        x.haul(1, 0);
        share("hauls without grams", x, new int[] {0, 0, 1}, 0, 1);
        x.grams(0, 1, 5);
        x.grams(0, 1, 0);
        share("hauls without grams again", x, new int[] {0, 0, 1}, 0, 1);
    }

    /** Terms: "With one such HAUL alone it is that one's". */
    private static void shareOfOneHaulAlone() {
        KindTables x = new KindTables(3, 1);
        x.haul(100, 100);
        x.grams(0, 0, 2);
        x.grams(0, 1, 4);
        share("one alone, at its place", x, new int[] {100, 100, 0}, 1, 3);
        share("one alone, far away", x, new int[] {-100, -100, 1}, 2, 3);
        share("one alone, a kind that it has not", x, new int[] {0, 0, 2}, 0, 1);
        x.haul(0, 0);
        share("one alone with grams", x, new int[] {0, 0, 1}, 2, 3);
        x.grams(0, 0, 0);
        share("one alone with one kind", x, new int[] {0, 0, 1}, 1, 1);
    }

    /** Terms: "of the two HAULS nearest to it (by squares". */
    private static void shareOfTheTwoNearest() {
        KindTables x = new KindTables(3, 1);
        x.haul(100, 0);
        x.haul(3, 3);
        x.haul(0, 5);
        for (int haul = 0; haul < 3; haul++) {
            x.grams(haul, haul, 1);
        }
        share("a third one is nothing to it", x, new int[] {0, 0, 0}, 0, 1);
        share("the nearest by squares, 18", x, new int[] {0, 0, 1}, 26, 45);
        share("the next by squares, 25", x, new int[] {0, 0, 2}, 19, 45);
        x.haul(0, 4);
        x.grams(3, 0, 1);
        share("a nearer one comes", x, new int[] {0, 0, 0}, 19, 36);
        share("and one goes", x, new int[] {0, 0, 2}, 0, 1);
        share("3 and 3 is nearer than 0 and 5, but farther than 0 and 4", x, new int[] {0, 0, 1}, 17, 36);
    }

    /** Terms: "of several the least". */
    private static void shareOfSeveralTheLeast() {
        KindTables x = new KindTables(4, 1);
        int[][] places = {{50, 50}, {0, 5}, {3, 4}, {-5, 0}};
        for (int haul = 0; haul < 4; haul++) {
            x.haul(places[haul][0], places[haul][1]);
            x.grams(haul, haul, 7);
        }
        share("three as near, the least", x, new int[] {0, 0, 1}, 1, 2);
        share("three as near, the next", x, new int[] {0, 0, 2}, 1, 2);
        share("three as near, the last one is left", x, new int[] {0, 0, 3}, 0, 1);
        x.haul(0, 0);
        x.grams(4, 0, 7);
        share("behind a nearer one the least of three", x, new int[] {0, 0, 1}, 1, 27);
        share("behind a nearer one, not the next", x, new int[] {0, 0, 2}, 0, 1);
        share("the nearer one", x, new int[] {0, 0, 0}, 26, 27);
    }

    /** Terms: "that have any grams". */
    private static void shareByHaulsWithAnyGrams() {
        KindTables x = new KindTables(6, 1);
        for (int haul = 0; haul < 12; haul++) {
            x.haul(haul, 0);
        }
        x.grams(11, 5, 1);
        share("the last of twelve is the only one", x, new int[] {0, 0, 5}, 1, 1);
        x.grams(10, 0, 1);
        share("the last two of twelve", x, new int[] {10, 0, 5}, 1, 3);
        x.grams(9, 5, 1);
        share("of any kind", x, new int[] {9, 0, 0}, 1, 3);
        x.grams(10, 0, 0);
        share("one has none any more", x, new int[] {9, 0, 0}, 0, 1);
    }

    /** Terms: "the WEIGHT is 1 by (the square of its distance and 1)". */
    private static void shareByWeights() {
        KindTables x = new KindTables(2, 1);
        x.haul(0, 0);
        x.haul(0, 0);
        x.grams(0, 0, 3);
        x.grams(1, 1, 500);
        share("two at the place itself", x, new int[] {0, 0, 0}, 1, 2);
        share("two as far", x, new int[] {100, -100, 1}, 1, 2);
        KindTables far = new KindTables(2, 1);
        far.haul(100, 100);
        far.haul(-100, -100);
        far.grams(0, 0, 1);
        far.grams(1, 1, 1000);
        share("from corner to corner", far, new int[] {-100, -100, 0}, 1, 80002);
        share("from the other corner", far, new int[] {100, 100, 0}, 80001, 80002);
        share("to the side, 2 by 79604", far, new int[] {100, 99, 1}, 1, 39802);
    }

    /** Terms: "told above (part = 0) and below (1), without a common divisor, below 1 at least". */
    private static void shareWithoutCommonDivisor() {
        KindTables x = new KindTables(2, 1);
        x.haul(0, 0);
        x.grams(0, 0, 1000);
        x.grams(0, 1, 1000);
        share("1000 by 2000", x, new int[] {0, 0, 0}, 1, 2);
        x.grams(0, 1, 999);
        share("1000 by 1999", x, new int[] {0, 0, 0}, 1000, 1999);
        x.haul(0, 1);
        x.grams(1, 0, 1000);
        x.grams(1, 1, 999);
        share("the same in both", x, new int[] {0, 0, 0}, 1000, 1999);
        x.grams(0, 1, 0);
        x.grams(1, 1, 0);
        share("all of both", x, new int[] {0, 0, 0}, 1, 1);
        share("none of both", x, new int[] {0, 0, 1}, 0, 1);
    }

    /** Numbers that no int holds: 999 / 5999 by 80001 and 999 / 5998 by 79602. */
    private static void shareAsGreatAsCanBe() {
        KindTables x = new KindTables(6, 1);
        x.haul(100, 100);
        x.haul(100, 99);
        for (int kind = 0; kind < 6; kind++) {
            x.grams(0, kind, kind == 0 ? 999 : 1000);
            x.grams(1, kind, kind < 2 ? 999 : 1000);
        }
        share("as great as can be", x, new int[] {-100, -100, 0}, 318807138735L, 1914278488402L);
    }

    /** Promise 21: "IndexOutOfBoundsException". */
    private static void shareOfNone() {
        for (Scene scene : Scene.ALL) {
            EDGES.range(scene, "21: share of kind", Checks.INDEX, new int[] {0, scene.kinds - 1},
                    (x, n) -> x.share(0, 0, n, 0));
            EDGES.range(scene, "21: part of share", Checks.INDEX, new int[] {0, 1}, (x, n) -> x.share(0, 0, 0, n));
        }
    }

    /** Promise 21: "IllegalArgumentException: x or y is not -100 .. 100". */
    private static void shareOutside() {
        for (Scene scene : Scene.ALL) {
            int[] ends = {-100, 100};
            EDGES.range(scene, "21: x is not -100 .. 100", Checks.ARGUMENT, ends, (x, n) -> x.share(n, 0, 0, 0));
            EDGES.range(scene, "21: y is not -100 .. 100", Checks.ARGUMENT, ends, (x, n) -> x.share(0, n, 0, 1));
        }
    }
}
