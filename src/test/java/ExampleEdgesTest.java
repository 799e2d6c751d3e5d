/** The edges that promises 1 to 6 and 25 name, a method for each sentence. */
public final class ExampleEdgesTest {
    private static final Checks CHECKS = new Checks();
    private static final Edges EDGES = new Edges(CHECKS);
    private static final Scene[] WITH_EXAMPLES = {Scene.SOME, Scene.FULL};
    private static final Scene[] WITH_ROOM = {Scene.EMPTY, Scene.SOME};

    public static void main(String[] args) {
        kindsAreTheNearest();
        frequenciesAreTheNearest();
        exampleOrNot();
        exampleOfNoKind();
        thereAre24();
        whetherItIsAnother();
        valueOfNone();
        valueOutside();
        taughtOrNot();
        teachNone();
        widthOfNone();
        widthOutside();
        cellCutOff();
        cellOfNone();
        countOfAnother();
        countOfNothing();
        CHECKS.end();
    }

    /** Promise 1: "kinds the nearest of 1 .. 6". */
    private static void kindsAreTheNearest() {
        int[] asked = {Integer.MIN_VALUE, -6, -1, 0, 1, 2, 5, 6, 7, 8, Integer.MAX_VALUE};
        int[] due = {1, 1, 1, 1, 1, 2, 5, 6, 6, 6, 6};
        for (int i = 0; i < asked.length; i++) {
            KindTables x = new KindTables(asked[i], 3);
            String text = "1: kinds the nearest of 1 .. 6: " + asked[i];
            CHECKS.due(text, due[i], x.count(3));
            CHECKS.due(text + ", features", 6, x.count(4));
            CHECKS.due(text + ", the last kind", due[i] - 1, x.prefer(due[i] - 1));
            int none = due[i];
            CHECKS.refused(text + ", no kind more", Checks.INDEX, () -> x.prefer(none));
        }
    }

    /** Promise 1: "frequencies of 1 .. 8". */
    private static void frequenciesAreTheNearest() {
        int[] asked = {Integer.MIN_VALUE, -8, -1, 0, 1, 2, 7, 8, 9, 10, Integer.MAX_VALUE};
        int[] due = {4, 4, 4, 4, 4, 5, 10, 11, 11, 11, 11};
        for (int i = 0; i < asked.length; i++) {
            KindTables x = new KindTables(3, asked[i]);
            String text = "1: frequencies of 1 .. 8: " + asked[i];
            CHECKS.due(text, due[i], x.count(4));
            CHECKS.due(text + ", kinds", 3, x.count(3));
            CHECKS.due(text + ", the last feature", 100, x.width(due[i] - 1, 1));
            int none = due[i];
            CHECKS.refused(text + ", no feature more", Checks.INDEX, () -> x.width(none, 1));
        }
    }

    /** Promise 2: "TAUGHT as a kind, or not (NONE): its number". */
    private static void exampleOrNot() {
        KindTables x = new KindTables(6, 1);
        for (int kind = -1; kind < 6; kind++) {
            CHECKS.due("2: its number", kind + 1, x.example(kind));
        }
        CHECKS.due("2: or not", 6, x.count(1));
        for (int kind = -1; kind < 6; kind++) {
            CHECKS.due("2: taught as a kind, or not", kind, x.teach(kind + 1, 0));
        }
    }

    /** Promise 2: "IndexOutOfBoundsException". */
    private static void exampleOfNoKind() {
        for (Scene scene : WITH_ROOM) {
            EDGES.range(scene, "2: example of kind", Checks.INDEX, new int[] {-1, scene.kinds - 1}, KindTables::example);
        }
    }

    /** Promise 2: "IllegalStateException: there are 24". */
    private static void thereAre24() {
        KindTables x = new KindTables(1, 1);
        for (int i = 0; i < 24; i++) {
            CHECKS.due("2: there is room for 24", i, x.example(0));
        }
        CHECKS.refused("2: there are 24", Checks.STATE, () -> x.example(0));
        CHECKS.due("2: there are 24 still", 24, x.count(0));
        CHECKS.due("2: the last one can be used", true, x.value(23, 3, 1));
        for (int kind = -1; kind < 6; kind++) {
            int of = kind;
            EDGES.refused(Scene.FULL, "2: there are 24, kind " + of, Checks.STATE, y -> y.example(of));
        }
    }

    /** Promise 3: "whether it is another one". */
    private static void whetherItIsAnother() {
        KindTables x = new KindTables(1, 1);
        x.example(-1);
        x.example(-1);
        CHECKS.due("3: 0 is no other one at first", false, x.value(1, 3, 0));
        CHECKS.due("3: 2000 is another one", true, x.value(1, 3, 2000));
        CHECKS.due("3: 2000 again is not", false, x.value(1, 3, 2000));
        CHECKS.due("3: another one in the same cell", true, x.value(1, 0, 1));
        CHECKS.due("3: back to 0", true, x.value(1, 3, 0));
        CHECKS.due("3: by another feature it is 0", false, x.value(1, 2, 0));
        CHECKS.due("3: of another example it is 0", false, x.value(0, 0, 0));
    }

    private static long set(KindTables x, int example, int feature, int v) {
        return x.value(example, feature, v) ? 1 : 0;
    }

    /** Promise 3: "IndexOutOfBoundsException". */
    private static void valueOfNone() {
        for (Scene scene : Scene.ALL) {
            EDGES.range(scene, "3: value of example", Checks.INDEX, new int[] {0, scene.examples - 1},
                    (x, n) -> set(x, n, 0, 1));
        }
        for (Scene scene : WITH_EXAMPLES) {
            EDGES.range(scene, "3: value by feature", Checks.INDEX, new int[] {0, scene.features - 1},
                    (x, n) -> set(x, scene.examples - 1, n, 1));
        }
    }

    /** Promise 3: "IllegalArgumentException: v is not 0 .. 2000". */
    private static void valueOutside() {
        for (Scene scene : WITH_EXAMPLES) {
            EDGES.range(scene, "3: v is not 0 .. 2000", Checks.ARGUMENT, new int[] {0, 2000},
                    (x, n) -> set(x, scene.examples - 1, scene.features - 1, n));
        }
    }

    /** Promise 4: "TAUGHT as a kind, or not (NONE): as what it was". */
    private static void taughtOrNot() {
        KindTables x = new KindTables(6, 1);
        x.example(-1);
        x.example(5);
        CHECKS.due("4: it was not", -1, x.teach(0, -1));
        CHECKS.due("4: it was not, and is now", -1, x.teach(0, 5));
        CHECKS.due("4: it was the last kind", 5, x.teach(0, 0));
        CHECKS.due("4: it was the first kind", 0, x.teach(0, 0));
        CHECKS.due("4: as the same kind again", 0, x.teach(0, -1));
        CHECKS.due("4: one is taught less", 1, x.count(1));
        CHECKS.due("4: the other one is as it was", 5, x.teach(1, -1));
    }

    /** Promise 4: "IndexOutOfBoundsException". */
    private static void teachNone() {
        for (Scene scene : Scene.ALL) {
            EDGES.range(scene, "4: teach example", Checks.INDEX, new int[] {0, scene.examples - 1}, (x, n) -> x.teach(n, 0));
        }
        for (Scene scene : WITH_EXAMPLES) {
            EDGES.range(scene, "4: teach as kind", Checks.INDEX, new int[] {-1, scene.kinds - 1},
                    (x, n) -> x.teach(scene.examples - 1, n));
        }
    }

    /** Promise 5: "IndexOutOfBoundsException". */
    private static void widthOfNone() {
        for (Scene scene : Scene.ALL) {
            EDGES.range(scene, "5: width of feature", Checks.INDEX, new int[] {0, scene.features - 1}, (x, n) -> x.width(n, 7));
        }
    }

    /** Promise 5: "IllegalArgumentException: w is not 1 .. 1000". */
    private static void widthOutside() {
        for (Scene scene : Scene.ALL) {
            EDGES.range(scene, "5: w is not 1 .. 1000", Checks.ARGUMENT, new int[] {1, 1000},
                    (x, n) -> x.width(scene.features - 1, n));
        }
    }

    /** Promise 6, and Terms: "its number by the WIDTH, cut off". */
    private static void cellCutOff() {
        int[] widths = {1, 1, 1, 100, 100, 100, 100, 1000, 1000, 1000, 1000, 999, 3, 3};
        int[] numbers = {0, 1, 2000, 0, 99, 100, 2000, 999, 1000, 1999, 2000, 1998, 2, 2000};
        int[] due = {0, 1, 2000, 0, 0, 1, 20, 0, 1, 1, 2, 2, 0, 666};
        KindTables x = new KindTables(1, 8);
        x.example(-1);
        for (int i = 0; i < widths.length; i++) {
            x.width(10, widths[i]);
            x.value(0, 10, numbers[i]);
            CHECKS.due("6: " + numbers[i] + " by " + widths[i] + ", cut off", due[i], x.cell(0, 10));
        }
        CHECKS.due("6: another feature has a width of its own", 0, x.cell(0, 9));
    }

    /** Promise 6: "IndexOutOfBoundsException". */
    private static void cellOfNone() {
        for (Scene scene : Scene.ALL) {
            EDGES.range(scene, "6: cell of example", Checks.INDEX, new int[] {0, scene.examples - 1}, (x, n) -> x.cell(n, 0));
        }
        for (Scene scene : WITH_EXAMPLES) {
            EDGES.range(scene, "6: cell by feature", Checks.INDEX, new int[] {0, scene.features - 1}, (x, n) -> x.cell(0, n));
        }
    }

    /** Promise 25: "NONE for another what". */
    private static void countOfAnother() {
        for (Scene scene : Scene.ALL) {
            KindTables x = scene.make();
            for (int what : new int[] {Integer.MIN_VALUE, -2, -1, 5, 6, Integer.MAX_VALUE}) {
                CHECKS.due("25: NONE for another what: " + what, -1, x.count(what));
            }
        }
    }

    /** Promise 25: of what there is none at first, and where it is full. */
    private static void countOfNothing() {
        KindTables x = new KindTables(1, 1);
        int[] first = {0, 0, 0, 1, 4};
        for (int what = 0; what < 5; what++) {
            CHECKS.due("25: at first " + what, first[what], x.count(what));
        }
        KindTables full = Scene.FULL.make();
        int[] most = {24, 20, 12, 6, 11};
        for (int what = 0; what < 5; what++) {
            CHECKS.due("25: full " + what, most[what], full.count(what));
        }
        x.example(-1);
        CHECKS.due("25: one not taught", 0, x.count(1));
        CHECKS.due("25: but an example", 1, x.count(0));
    }
}
