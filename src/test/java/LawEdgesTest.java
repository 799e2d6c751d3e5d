/** The edges that promises 22 to 24 name, a method for each sentence. */
public final class LawEdgesTest {
    private static final Checks CHECKS = new Checks();
    private static final Edges EDGES = new Edges(CHECKS);
    private static final Scene[] WITH_ROOM = {Scene.EMPTY, Scene.SOME};

    public static void main(String[] args) {
        lawOfNone();
        lengthOutside();
        lengthNotAboveTheLast();
        strengthOutside();
        howManyItHas();
        itHas6();
        eachKindHasItsOwn();
        noneWithoutRows();
        noneBeforeTheFirstAndBehindTheLast();
        strengthAtRows();
        floorBetweenRows();
        strengthOfAnyNumber();
        strengthOfNone();
        leastLengthThatOrMore();
        leastLengthBehindAFall();
        noLengthIsEnough();
        lengthByTryingAll();
        lengthOfNone();
        CHECKS.end();
    }

    private static KindTables withRows(int... rows) {
        KindTables x = new KindTables(2, 1);
        for (int i = 0; i + 1 < rows.length; i += 2) {
            x.law(1, rows[i], rows[i + 1]);
        }
        return x;
    }

    /** Promise 22: "IndexOutOfBoundsException". */
    private static void lawOfNone() {
        for (Scene scene : WITH_ROOM) {
            EDGES.range(scene, "22: law of kind", Checks.INDEX, new int[] {0, scene.kinds - 1}, (x, n) -> x.law(n, 500, 5));
        }
    }

    /** Promise 22: "IllegalArgumentException: length is not 1 .. 1000". */
    private static void lengthOutside() {
        EDGES.range(Scene.EMPTY, "22: length is not 1 .. 1000", Checks.ARGUMENT, new int[] {1, 1000}, (x, n) -> x.law(0, n, 5));
        CHECKS.due("22: the least length can be used", 7, withRows(1, 7).strength(1, 1));
        CHECKS.due("22: the greatest length can be used", 7, withRows(1000, 7).strength(1, 1000));
    }

    /** Promise 22: "or not above that of its last row". */
    private static void lengthNotAboveTheLast() {
        Scene scene = Scene.SOME;
        for (int kind = 0; kind < scene.kinds; kind++) {
            int of = kind;
            EDGES.range(scene, "22: not above that of its last row", Checks.ARGUMENT,
                    new int[] {scene.lastLength(of) + 1, 1000}, (x, n) -> x.law(of, n, 5));
            EDGES.refused(scene, "22: before its first row", Checks.ARGUMENT, x -> x.law(of, 1, 5));
        }
        KindTables x = withRows(1000, 0);
        CHECKS.refused("22: nothing is above the greatest", Checks.ARGUMENT, () -> x.law(1, 1000, 0));
        CHECKS.due("22: a row of another kind is nothing to it", 1, x.law(0, 1, 0));
    }

    /** Promise 22: "or strength is not 0 .. 2000". */
    private static void strengthOutside() {
        for (Scene scene : WITH_ROOM) {
            EDGES.range(scene, "22: strength is not 0 .. 2000", Checks.ARGUMENT, new int[] {0, 2000}, (x, n) -> x.law(0, 500, n));
        }
        CHECKS.due("22: the least strength can be used", 0, withRows(5, 0).strength(1, 5));
        CHECKS.due("22: the greatest strength can be used", 2000, withRows(5, 2000).strength(1, 5));
    }

    /** Promise 22: "A row more of a kind's LAW: how many it has". */
    private static void howManyItHas() {
        KindTables x = new KindTables(2, 1);
        for (int row = 1; row <= 6; row++) {
            CHECKS.due("22: how many kind 0 has", row, x.law(0, row, 0));
            CHECKS.due("22: how many kind 1 has", row, x.law(1, 100 * row, 2000));
        }
    }

    /** Promise 22: "IllegalStateException: it has 6". */
    private static void itHas6() {
        KindTables x = new KindTables(6, 1);
        for (int row = 1; row <= 6; row++) {
            CHECKS.due("22: there is room for 6", row, x.law(5, row, 2000 - row));
        }
        CHECKS.refused("22: it has 6", Checks.STATE, () -> x.law(5, 7, 0));
        CHECKS.due("22: the sixth is still the last", 1994, x.strength(5, 6));
        CHECKS.due("22: there is no seventh", -1, x.strength(5, 7));
        CHECKS.due("22: another kind has room", 1, x.law(4, 7, 0));
        for (int kind = 0; kind < Scene.FULL.kinds; kind++) {
            int of = kind;
            EDGES.refused(Scene.FULL, "22: it has 6", Checks.STATE, y -> y.law(of, 1000, 2000));
            EDGES.refused(Scene.FULL, "22: it has 6, just above", Checks.STATE,
                    y -> y.law(of, Scene.FULL.lastLength(of) + 1, 0));
        }
    }

    /** Terms: "The LAW of a kind": no other kind has its rows. */
    private static void eachKindHasItsOwn() {
        KindTables x = new KindTables(6, 1);
        for (int kind = 0; kind < 6; kind++) {
            CHECKS.due("22: the first row of each", 1, x.law(kind, 500, 100 + kind));
        }
        for (int kind = 0; kind < 6; kind++) {
            CHECKS.due("23: each has its own", 100 + kind, x.strength(kind, 500));
            CHECKS.due("24: and its own length", kind < 3 ? -1 : 500, x.length(kind, 103));
        }
    }

    /** Promises 23 and 24: "NONE if there is none", without any row. */
    private static void noneWithoutRows() {
        KindTables x = new KindTables(1, 1);
        for (int number : new int[] {Integer.MIN_VALUE, -1, 0, 1, 1000, Integer.MAX_VALUE}) {
            CHECKS.due("23: no rows: " + number, -1, x.strength(0, number));
            CHECKS.due("24: no rows: " + number, -1, x.length(0, number));
        }
    }

    /** Terms: "there is none before the first row, and behind the last one". */
    private static void noneBeforeTheFirstAndBehindTheLast() {
        KindTables one = withRows(5, 8);
        int[] dueOfOne = {-1, 8, -1};
        KindTables two = withRows(5, 8, 7, 8);
        int[] dueOfTwo = {-1, 8, 8, 8, -1};
        for (int i = 0; i < 3; i++) {
            CHECKS.due("23: one row, at " + (4 + i), dueOfOne[i], one.strength(1, 4 + i));
        }
        for (int i = 0; i < 5; i++) {
            CHECKS.due("23: two rows, at " + (4 + i), dueOfTwo[i], two.strength(1, 4 + i));
        }
        KindTables whole = withRows(1, 3, 1000, 4);
        CHECKS.due("23: before the least length", -1, whole.strength(1, 0));
        CHECKS.due("23: behind the greatest length", -1, whole.strength(1, 1001));
    }

    /** Terms: at a row the strength is that row's. */
    private static void strengthAtRows() {
        int[] rows = {1, 2000, 2, 0, 500, 7, 501, 7, 999, 2000, 1000, 1};
        KindTables x = withRows(rows);
        for (int i = 0; i < rows.length; i += 2) {
            CHECKS.due("23: at the row of " + rows[i], rows[i + 1], x.strength(1, rows[i]));
        }
    }

    /** Terms: "FLOOR(difference of strengths times how far it is behind the first one, by the difference of lengths)". */
    private static void floorBetweenRows() {
        KindTables x = withRows(10, 100, 13, 101, 16, 100, 19, 100, 22, 93, 23, 0);
        int[] due = {100, 100, 100, 101, 100, 100, 100, 100, 100, 100, 97, 95, 93, 0};
        for (int i = 0; i < due.length; i++) {
            CHECKS.due("23: floor at " + (10 + i), due[i], x.strength(1, 10 + i));
        }
        KindTables fall = withRows(1, 2000, 1000, 0);
        CHECKS.due("23: a fall by 2 and a bit", 1997, fall.strength(1, 2));
        CHECKS.due("23: the end of a fall", 2, fall.strength(1, 999));
        KindTables rise = withRows(1, 0, 1000, 2000);
        CHECKS.due("23: a rise by 2 and a bit", 2, rise.strength(1, 2));
        CHECKS.due("23: the end of a rise", 1997, rise.strength(1, 999));
        KindTables slow = withRows(1, 1, 1000, 0);
        CHECKS.due("23: a slow fall is at its end at once", 0, slow.strength(1, 2));
    }

    /** Promise 23: "at a length (any number)". */
    private static void strengthOfAnyNumber() {
        KindTables x = withRows(1, 2000, 1000, 2000);
        int[] numbers = {Integer.MIN_VALUE, Integer.MIN_VALUE + 1, -1001, -1, 0, 1001, 1 << 30, Integer.MAX_VALUE};
        for (int number : numbers) {
            CHECKS.due("23: any number: " + number, -1, x.strength(1, number));
        }
        CHECKS.due("23: the least that is there", 2000, x.strength(1, 1));
        CHECKS.due("23: the greatest that is there", 2000, x.strength(1, 1000));
    }

    /** Promise 23: "IndexOutOfBoundsException". */
    private static void strengthOfNone() {
        for (Scene scene : Scene.ALL) {
            EDGES.range(scene, "23: strength of kind", Checks.INDEX, new int[] {0, scene.kinds - 1}, (x, n) -> x.strength(n, 5));
        }
    }

    /** Promise 24: "The least length at which a kind's strength is that, or more". */
    private static void leastLengthThatOrMore() {
        KindTables x = withRows(10, 100, 13, 101, 20, 115);
        CHECKS.due("24: less than the first row has", 10, x.length(1, 99));
        CHECKS.due("24: as much as the first row has", 10, x.length(1, 100));
        CHECKS.due("24: a slow rise, only at the row", 13, x.length(1, 101));
        CHECKS.due("24: passed over by the next length", 14, x.length(1, 102));
        CHECKS.due("24: at the next length", 14, x.length(1, 103));
        CHECKS.due("24: just above it", 15, x.length(1, 104));
        CHECKS.due("24: the last row", 20, x.length(1, 115));
        for (int number : new int[] {Integer.MIN_VALUE, -2001, -1, 0}) {
            CHECKS.due("24: or more: " + number, 10, x.length(1, number));
        }
        CHECKS.due("24: of 0 at the least length", 1, withRows(1, 0).length(1, 0));
        CHECKS.due("24: a steep rise", 2, withRows(1, 0, 2, 2000).length(1, 1));
        CHECKS.due("24: just behind the first row", 2, withRows(1, 0, 11, 100).length(1, 10));
        CHECKS.due("24: two behind the first row", 3, withRows(1, 0, 11, 100).length(1, 11));
        CHECKS.due("24: a slow rise", 1000, withRows(1, 0, 1000, 1).length(1, 1));
    }

    /** Promise 24: "The least length", also where strengths fall and rise again. */
    private static void leastLengthBehindAFall() {
        KindTables x = withRows(10, 50, 20, 10, 30, 50, 40, 50, 50, 90);
        CHECKS.due("24: before the fall", 10, x.length(1, 50));
        CHECKS.due("24: what the fall has later too", 10, x.length(1, 11));
        CHECKS.due("24: behind the fall and the flat", 41, x.length(1, 51));
        CHECKS.due("24: at the top", 50, x.length(1, 90));
    }

    /** Promise 24: "NONE". */
    private static void noLengthIsEnough() {
        KindTables x = withRows(1, 2000, 1000, 5);
        CHECKS.due("24: the most there can be", 1, x.length(1, 2000));
        for (int number : new int[] {2001, 1 << 30, Integer.MAX_VALUE}) {
            CHECKS.due("24: NONE: " + number, -1, x.length(1, number));
        }
        CHECKS.due("24: more than the only row", -1, withRows(7, 0).length(1, 1));
    }

    /** Promise 24 by promise 23: the length is found by trying all of them. */
    private static void lengthByTryingAll() {
        int[] rows = {3, 40, 9, 25, 10, 58, 27, 60, 40, 60, 77, 119};
        for (int strength = -2; strength <= 121; strength++) {
            KindTables x = withRows(rows);
            int due = -1;
            for (int length = 77; length >= 3; length--) {
                if (x.strength(1, length) >= strength) {
                    due = length;
                }
            }
            CHECKS.due("24: the first of all with " + strength, due, x.length(1, strength));
        }
    }

    /** Promise 24: "IndexOutOfBoundsException". */
    private static void lengthOfNone() {
        for (Scene scene : Scene.ALL) {
            EDGES.range(scene, "24: length of kind", Checks.INDEX, new int[] {0, scene.kinds - 1}, (x, n) -> x.length(n, 5));
        }
    }
}
