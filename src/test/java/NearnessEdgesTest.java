/** The edges that promises 16 to 18 name, a method for each sentence. */
public final class NearnessEdgesTest {
    private static final Checks CHECKS = new Checks();
    private static final Edges EDGES = new Edges(CHECKS);
    private static final Scene[] WITH_EXAMPLES = {Scene.SOME, Scene.FULL};

    public static void main(String[] args) {
        groupsOfNoExamples();
        groupsOfOneExample();
        atLeastSoManyFeatures();
        groupsHangTogether();
        groupsAreMadeAnew();
        groupsOfAll();
        leastOutside();
        itselfLeftOut();
        onlyTaughtAreNear();
        ofTheSameTheLesser();
        notSoManyNear();
        nearestToNone();
        kBelow0();
        distanceToItself();
        distanceByAllFeatures();
        distanceOfNone();
        CHECKS.end();
    }

    private static KindTables examples(int many, int kind) {
        KindTables x = new KindTables(2, 8);
        for (int i = 0; i < many; i++) {
            x.example(kind);
        }
        return x;
    }

    /** Promise 16: "How many GROUPS all EXAMPLES make": none make none. */
    private static void groupsOfNoExamples() {
        KindTables x = new KindTables(1, 1);
        for (int least = 0; least <= 4; least++) {
            CHECKS.due("16: no examples, by " + least, 0, x.groups(least));
        }
    }

    /** Promise 16: one makes one, taught or not. */
    private static void groupsOfOneExample() {
        for (int least = 0; least <= 11; least++) {
            CHECKS.due("16: one taught example", 1, examples(1, 0).groups(least));
            CHECKS.due("16: one that is not taught", 1, examples(1, -1).groups(least));
        }
    }

    /** Terms: "in the same CELL by at least so many features". */
    private static void atLeastSoManyFeatures() {
        KindTables x = examples(2, -1);
        for (int differ = 0; differ <= 11; differ++) {
            int same = 11 - differ;
            for (int least = 0; least <= 11; least++) {
                CHECKS.due("16: the same by " + same + ", least " + least, same >= least ? 1 : 2, x.groups(least));
            }
            if (differ < 11) {
                x.value(0, differ, 99);
                CHECKS.due("16: another number in the same cell", 1, x.groups(same));
                x.value(0, differ, 100);
            }
        }
    }

    /** Terms: "GROUPS hang together by that": through others, in whatever order they came. */
    private static void groupsHangTogether() {
        KindTables x = examples(4, -1);
        int[][] cells = {{1, 1}, {4, 4}, {1, 2}, {4, 2}};
        for (int i = 0; i < 4; i++) {
            for (int feature = 0; feature < 11; feature++) {
                x.value(i, feature, feature < 2 ? 100 * cells[i][feature] : 500 + 100 * i);
            }
        }
        CHECKS.due("16: a chain of four", 1, x.groups(1));
        x.value(3, 0, 500);
        CHECKS.due("16: a chain of three, one left", 2, x.groups(1));
        x.value(3, 1, 300);
        CHECKS.due("16: one pair, two left", 3, x.groups(1));
        CHECKS.due("16: none alike", 4, x.groups(2));
        CHECKS.due("16: by 0 all are alike", 1, x.groups(0));
    }

    /** Promise 16: what hung together before is nothing to the next call. */
    private static void groupsAreMadeAnew() {
        KindTables x = examples(3, -1);
        for (int feature = 0; feature < 11; feature++) {
            x.value(0, feature, 500);
            x.value(1, feature, 700);
        }
        x.value(0, 3, 0);
        x.value(1, 4, 0);
        CHECKS.due("16: both hang together by the last one", 1, x.groups(1));
        for (int feature = 0; feature < 11; feature++) {
            x.value(1, feature, feature == 3 ? 0 : 500);
            x.value(2, feature, 1500);
        }
        CHECKS.due("16: now they do so without it", 2, x.groups(11));
        CHECKS.due("16: and again", 2, x.groups(11));
        x.value(1, 0, 900);
        CHECKS.due("16: none with another", 3, x.groups(11));
    }

    /** Promise 16: "all EXAMPLES", 24 at most. */
    private static void groupsOfAll() {
        KindTables x = examples(24, -1);
        CHECKS.due("16: all alike", 1, x.groups(11));
        x.width(10, 80);
        for (int i = 1; i < 24; i++) {
            x.value(i, 10, 80 * i);
            CHECKS.due("16: one more is apart", i + 1, x.groups(11));
        }
        CHECKS.due("16: each on its own", 24, x.groups(11));
        CHECKS.due("16: by all features but one", 1, x.groups(10));
    }

    /** Promise 16: "IllegalArgumentException: least is not 0 up to how many features there are". */
    private static void leastOutside() {
        for (Scene scene : Scene.ALL) {
            EDGES.range(scene, "16: least is not 0 up to how many features there are", Checks.ARGUMENT,
                    new int[] {0, scene.features}, KindTables::groups);
        }
    }

    /** Promise 17: "itself left out". */
    private static void itselfLeftOut() {
        CHECKS.due("17: one alone", -1, examples(1, 0).nearest(0, 0));
        KindTables x = examples(2, 0);
        CHECKS.due("17: the other one", 1, x.nearest(0, 0));
        CHECKS.due("17: from there", 0, x.nearest(1, 0));
        CHECKS.due("17: there are no more", -1, x.nearest(0, 1));
    }

    /** Promise 17: "The k-th nearest TAUGHT example". */
    private static void onlyTaughtAreNear() {
        KindTables x = examples(3, -1);
        CHECKS.due("17: none is taught", -1, x.nearest(0, 0));
        x.teach(2, 0);
        CHECKS.due("17: the only taught one", 2, x.nearest(0, 0));
        CHECKS.due("17: itself is the only taught one", -1, x.nearest(2, 0));
        x.value(2, 10, 2000);
        x.teach(1, 1);
        CHECKS.due("17: of whatever kind", 1, x.nearest(0, 0));
        CHECKS.due("17: far, but taught", 2, x.nearest(0, 1));
    }

    /** Promise 17: "by DISTANCE, of the same the lesser one". */
    private static void ofTheSameTheLesser() {
        KindTables x = examples(24, 1);
        for (int k = 0; k < 23; k++) {
            CHECKS.due("17: all as near, from the last", k, x.nearest(23, k));
            CHECKS.due("17: all as near, from the first", k + 1, x.nearest(0, k));
        }
        x.value(0, 0, 500);
        x.value(1, 0, 501);
        x.value(2, 0, 499);
        x.value(3, 10, 500);
        CHECKS.due("17: the nearest first", 2, x.nearest(0, 1));
        CHECKS.due("17: 1 and 2 are as near", 1, x.nearest(0, 0));
        CHECKS.due("17: then the rest", 4, x.nearest(0, 2));
        CHECKS.due("17: the farthest last", 3, x.nearest(0, 22));
    }

    /** Promise 17: "NONE if there are not so many". */
    private static void notSoManyNear() {
        KindTables x = examples(24, 0);
        CHECKS.due("17: the last there is", 22, x.nearest(23, 22));
        for (int k : new int[] {23, 24, 1000, Integer.MAX_VALUE - 1, Integer.MAX_VALUE}) {
            CHECKS.due("17: NONE if there are not so many: " + k, -1, x.nearest(23, k));
        }
        x.teach(0, -1);
        CHECKS.due("17: one is taught less", -1, x.nearest(23, 22));
        CHECKS.due("17: all 23 taught ones are others to it", 23, x.nearest(0, 22));
    }

    /** Promise 17: "IndexOutOfBoundsException". */
    private static void nearestToNone() {
        for (Scene scene : Scene.ALL) {
            EDGES.range(scene, "17: nearest to example", Checks.INDEX, new int[] {0, scene.examples - 1},
                    (x, n) -> x.nearest(n, 0));
        }
    }

    /** Promise 17: "IllegalArgumentException: k is below 0". */
    private static void kBelow0() {
        for (Scene scene : WITH_EXAMPLES) {
            for (int k : new int[] {Integer.MIN_VALUE, -2, -1}) {
                EDGES.refused(scene, "17: k is below 0: " + k, Checks.ARGUMENT, x -> x.nearest(0, k));
            }
            EDGES.taken(scene, "17: k is 0", x -> x.nearest(0, 0));
            EDGES.taken(scene, "17: k is the greatest", x -> x.nearest(0, Integer.MAX_VALUE));
        }
    }

    /** Promise 18: of one with itself, and of two that are the same. */
    private static void distanceToItself() {
        KindTables x = examples(24, -1);
        CHECKS.due("18: two that are the same", 0, x.distance(0, 23));
        x.value(23, 10, 2000);
        CHECKS.due("18: itself", 0, x.distance(23, 23));
    }

    /** Terms: "the sum of squares of differences of their numbers, by all features". */
    private static void distanceByAllFeatures() {
        KindTables x = examples(2, -1);
        for (int feature = 0; feature < 11; feature++) {
            x.value(0, feature, 1);
            CHECKS.due("18: one more feature differs by 1", feature + 1, x.distance(0, 1));
            CHECKS.due("18: the other way", feature + 1, x.distance(1, 0));
        }
        for (int feature = 0; feature < 11; feature++) {
            x.value(feature % 2, feature, 2000);
            x.value(1 - feature % 2, feature, 0);
            CHECKS.due("18: as far as can be", 4000000 * (feature + 1) + 10 - feature, x.distance(0, 1));
        }
        x.width(0, 1000);
        CHECKS.due("18: widths are nothing to it", 44000000, x.distance(1, 0));
    }

    /** Promise 18: "IndexOutOfBoundsException". */
    private static void distanceOfNone() {
        for (Scene scene : Scene.ALL) {
            int[] ends = {0, scene.examples - 1};
            EDGES.range(scene, "18: distance of example", Checks.INDEX, ends, (x, n) -> x.distance(n, 0));
            EDGES.range(scene, "18: distance to other", Checks.INDEX, ends, (x, n) -> x.distance(0, n));
        }
    }
}
