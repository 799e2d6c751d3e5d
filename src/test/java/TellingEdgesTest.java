/** The edges that promises 7 to 15 name, a method for each sentence. */
public final class TellingEdgesTest {
    private static final Checks CHECKS = new Checks();
    private static final Edges EDGES = new Edges(CHECKS);
    private static final Scene[] WITH_EXAMPLES = {Scene.SOME, Scene.FULL};

    public static void main(String[] args) {
        anotherExampleVotes();
        severalFeaturesCountForEach();
        mostVotes();
        votesOfNone();
        firstInTheOrder();
        orderAtFirst();
        fewerThanTheBound();
        noneForUnknown();
        boundOfNothing();
        tellNone();
        boundOutside();
        toTheFront();
        preferNone();
        wrongAsUnknownOrItself();
        wrongOfNobody();
        wrongWithoutCommonDivisor();
        wrongOfNone();
        rightOfNobody();
        rightByOneFeatureAlone();
        rightByBoundAndOrder();
        rightOfNone();
        bestOfTheSame();
        thereAreNotSoMany();
        unknownOfAll();
        mixedOfNotTaught();
        mixedOfNobody();
        mixedOfNone();
        CHECKS.end();
    }

    private static KindTables taughtAs(int kinds, int... taught) {
        KindTables x = new KindTables(kinds, 1);
        for (int kind : taught) {
            x.example(kind);
        }
        return x;
    }

    /** Puts an example into cells of its own by all 4 features. */
    private static void apart(KindTables x, int example, int cell) {
        for (int feature = 0; feature < 4; feature++) {
            x.value(example, feature, 100 * cell);
        }
    }

    /** Promise 7, Terms: "how often another example that is TAUGHT as it". */
    private static void anotherExampleVotes() {
        KindTables x = taughtAs(2, 0);
        CHECKS.due("7: itself is no other one", 0, x.votes(0, 0));
        x.example(-1);
        CHECKS.due("7: one that is not taught does not vote", 0, x.votes(0, 0));
        CHECKS.due("7: but has votes", 4, x.votes(1, 0));
        CHECKS.due("7: none for a kind that nobody is taught as", 0, x.votes(1, 1));
        x.teach(1, 1);
        CHECKS.due("7: taught as another kind", 0, x.votes(0, 0));
        CHECKS.due("7: it votes for that", 4, x.votes(0, 1));
        apart(x, 1, 1);
        CHECKS.due("7: in no cell with it", 0, x.votes(0, 1));
        x.value(1, 3, 99);
        CHECKS.due("7: in the last of a cell", 1, x.votes(0, 1));
        x.value(1, 3, 100);
        CHECKS.due("7: in the first of the next one", 0, x.votes(0, 1));
    }

    /** Terms: "an example with several such features counts for each". */
    private static void severalFeaturesCountForEach() {
        KindTables x = taughtAs(1, 0, -1);
        for (int feature = 0; feature < 4; feature++) {
            CHECKS.due("7: counts for each feature", 4 - feature, x.votes(1, 0));
            x.value(0, feature, 2000);
        }
        CHECKS.due("7: for none", 0, x.votes(1, 0));
    }

    /** Promise 7: 23 others by 11 features. */
    private static void mostVotes() {
        KindTables x = new KindTables(6, 8);
        for (int i = 0; i < 24; i++) {
            x.example(5);
        }
        CHECKS.due("7: the most there can be", 253, x.votes(23, 5));
        x.bound(253);
        CHECKS.due("8: as many as the bound", 5, x.tell(23));
        x.bound(254);
        CHECKS.due("8: one fewer than the bound", -1, x.tell(23));
    }

    /** Promise 7: "IndexOutOfBoundsException". */
    private static void votesOfNone() {
        for (Scene scene : Scene.ALL) {
            EDGES.range(scene, "7: votes of example", Checks.INDEX, new int[] {0, scene.examples - 1}, (x, n) -> x.votes(n, 0));
        }
        for (Scene scene : WITH_EXAMPLES) {
            EDGES.range(scene, "7: votes for kind", Checks.INDEX, new int[] {0, scene.kinds - 1}, (x, n) -> x.votes(0, n));
        }
    }

    /** Terms: "of several the first of them in the ORDER". */
    private static void firstInTheOrder() {
        KindTables x = taughtAs(6, -1, 5, 4, 3, 2, 1, 0);
        CHECKS.due("8: all have 4, first 0", 0, x.tell(0));
        apart(x, 6, 9);
        CHECKS.due("8: without 0 it is 1", 1, x.tell(0));
        x.prefer(5);
        CHECKS.due("8: the last one in front", 5, x.tell(0));
        x.value(1, 0, 900);
        CHECKS.due("8: a vote fewer in front", 1, x.tell(0));
        x.prefer(4);
        x.prefer(0);
        CHECKS.due("8: the first of those with the most, not of all", 4, x.tell(0));
    }

    /** Terms: "The ORDER is 0, 1, .. at first". */
    private static void orderAtFirst() {
        for (int kinds = 1; kinds <= 6; kinds++) {
            for (int kind = 0; kind < kinds; kind++) {
                CHECKS.due("10: its place at first", kind, new KindTables(kinds, 1).prefer(kind));
            }
        }
    }

    /** Terms: "UNKNOWN if that has fewer VOTES than the BOUND (1 at first)". */
    private static void fewerThanTheBound() {
        KindTables x = taughtAs(2, -1, 1);
        apart(x, 1, 9);
        CHECKS.due("8: no votes, 1 at first", -1, x.tell(0));
        x.value(1, 3, 0);
        CHECKS.due("8: one vote, 1 at first", 1, x.tell(0));
        CHECKS.due("9: 1 at first", 1, x.bound(2));
        CHECKS.due("8: one vote, bound 2", -1, x.tell(0));
        x.value(1, 2, 0);
        CHECKS.due("8: two votes, bound 2", 1, x.tell(0));
        x.bound(1000);
        CHECKS.due("8: the greatest bound", -1, x.tell(0));
    }

    /** Promise 8: "NONE for UNKNOWN". */
    private static void noneForUnknown() {
        CHECKS.due("8: no other one votes, taught", KindTables.NONE, taughtAs(1, 0).tell(0));
        CHECKS.due("8: no other one votes, not taught", KindTables.NONE, taughtAs(6, -1, -1).tell(1));
    }

    /** With a BOUND of 0 nothing has fewer VOTES than it. */
    private static void boundOfNothing() {
        KindTables x = taughtAs(3, -1);
        x.bound(0);
        CHECKS.due("8: nobody is taught, bound 0", 0, x.tell(0));
        x.prefer(2);
        CHECKS.due("8: the first in the order", 2, x.tell(0));
        CHECKS.due("14: none is unknown", 0, x.unknown());
        CHECKS.due("15: mixed of the first", 1, x.mixed(2, 0));
    }

    /** Promise 8: "IndexOutOfBoundsException". */
    private static void tellNone() {
        for (Scene scene : Scene.ALL) {
            EDGES.range(scene, "8: tell", Checks.INDEX, new int[] {0, scene.examples - 1}, KindTables::tell);
        }
    }

    /** Promise 9: "IllegalArgumentException: v is not 0 .. 1000". */
    private static void boundOutside() {
        for (Scene scene : Scene.ALL) {
            EDGES.range(scene, "9: v is not 0 .. 1000", Checks.ARGUMENT, new int[] {0, 1000}, KindTables::bound);
        }
        KindTables x = new KindTables(1, 1);
        CHECKS.due("9: what it was at first", 1, x.bound(1000));
        CHECKS.due("9: the greatest was", 1000, x.bound(0));
        CHECKS.due("9: the least was", 0, x.bound(0));
    }

    /** Promise 10: "comes to the front of the ORDER: which place it had (0 the first)". */
    private static void toTheFront() {
        KindTables one = new KindTables(1, 1);
        CHECKS.due("10: the only one", 0, one.prefer(0));
        CHECKS.due("10: the only one again", 0, one.prefer(0));
        KindTables x = new KindTables(6, 1);
        CHECKS.due("10: the first stays", 0, x.prefer(0));
        CHECKS.due("10: the last", 5, x.prefer(5));
        CHECKS.due("10: it is the first now", 0, x.prefer(5));
        int[] kinds = {4, 3, 2, 1, 0};
        for (int kind : kinds) {
            CHECKS.due("10: the others keep their order", 5, x.prefer(kind));
        }
        CHECKS.due("10: one in the middle", 3, x.prefer(3));
        CHECKS.due("10: those before it go back by one", 3, x.prefer(2));
        CHECKS.due("10: those behind it stay", 4, x.prefer(4));
        CHECKS.due("10: the last of all", 5, x.prefer(5));
    }

    /** Promise 10: "IndexOutOfBoundsException". */
    private static void preferNone() {
        for (Scene scene : Scene.ALL) {
            EDGES.range(scene, "10: prefer", Checks.INDEX, new int[] {0, scene.kinds - 1}, KindTables::prefer);
        }
    }

    private static void fractionOfWrong(String text, KindTables x, int[] kindAndAs, int above, int below) {
        CHECKS.due(text + ", above", above, x.wrong(kindAndAs[0], kindAndAs[1], 0));
        CHECKS.due(text + ", below", below, x.wrong(kindAndAs[0], kindAndAs[1], 1));
    }

    /** Promise 11, Terms: "as another one (or as UNKNOWN, or as itself)". */
    private static void wrongAsUnknownOrItself() {
        KindTables x = taughtAs(2, 0, 0, 0, 1);
        apart(x, 2, 9);
        apart(x, 3, 15);
        fractionOfWrong("11: as itself", x, new int[] {0, 0}, 2, 3);
        fractionOfWrong("11: as UNKNOWN", x, new int[] {0, -1}, 1, 3);
        fractionOfWrong("11: as another one, never", x, new int[] {0, 1}, 0, 1);
        apart(x, 3, 9);
        fractionOfWrong("11: as another one", x, new int[] {0, 1}, 1, 3);
        fractionOfWrong("11: the other one as this", x, new int[] {1, 0}, 1, 1);
        x.example(-1);
        fractionOfWrong("11: who is not taught does not count", x, new int[] {0, 0}, 2, 3);
    }

    /** Terms: "0 / 1 if there is nothing by which it could be". */
    private static void wrongOfNobody() {
        fractionOfWrong("11: no examples", new KindTables(1, 1), new int[] {0, 0}, 0, 1);
        fractionOfWrong("11: no examples, as UNKNOWN", new KindTables(1, 1), new int[] {0, -1}, 0, 1);
        KindTables x = taughtAs(2, 0, 0, -1);
        fractionOfWrong("11: nobody is taught as it", x, new int[] {1, 1}, 0, 1);
        fractionOfWrong("11: nobody is taught as it, as UNKNOWN", x, new int[] {1, -1}, 0, 1);
        fractionOfWrong("11: nobody is taught as it, as another one", x, new int[] {1, 0}, 0, 1);
    }

    /** Terms: "without a common divisor, below 1 at least". */
    private static void wrongWithoutCommonDivisor() {
        KindTables x = new KindTables(1, 1);
        for (int i = 0; i < 24; i++) {
            x.example(0);
        }
        fractionOfWrong("11: 24 / 24", x, new int[] {0, 0}, 1, 1);
        fractionOfWrong("11: 0 / 24", x, new int[] {0, -1}, 0, 1);
        for (int i = 0; i < 6; i++) {
            apart(x, i, 2 + i);
        }
        fractionOfWrong("11: 18 / 24", x, new int[] {0, 0}, 3, 4);
        fractionOfWrong("11: 6 / 24", x, new int[] {0, -1}, 1, 4);
        apart(x, 6, 9);
        fractionOfWrong("11: 17 / 24", x, new int[] {0, 0}, 17, 24);
    }

    /** Promise 11: "IndexOutOfBoundsException". */
    private static void wrongOfNone() {
        for (Scene scene : Scene.ALL) {
            EDGES.range(scene, "11: wrong of kind", Checks.INDEX, new int[] {0, scene.kinds - 1}, (x, n) -> x.wrong(n, -1, 0));
            EDGES.range(scene, "11: wrong as", Checks.INDEX, new int[] {-1, scene.kinds - 1}, (x, n) -> x.wrong(0, n, 0));
            EDGES.range(scene, "11: part of wrong", Checks.INDEX, new int[] {0, 1}, (x, n) -> x.wrong(0, 0, n));
        }
    }

    /** Promise 12: of nobody, and of one alone. */
    private static void rightOfNobody() {
        CHECKS.due("12: no examples", 0, new KindTables(1, 1).right(0));
        CHECKS.due("12: none is taught", 0, taughtAs(1, -1, -1).right(0));
        CHECKS.due("12: one alone has no votes", 0, taughtAs(1, 0).right(0));
        CHECKS.due("12: two have each other's", 2, taughtAs(1, 0, 0).right(3));
        CHECKS.due("12: who is not taught does not count", 2, taughtAs(1, 0, 0, -1).right(0));
    }

    /** Terms: "if there were that feature alone". */
    private static void rightByOneFeatureAlone() {
        KindTables x = taughtAs(2, 0, 0, 1, 1);
        for (int i = 2; i < 4; i++) {
            x.value(i, 3, 100);
        }
        CHECKS.due("12: by the one that tells them apart", 4, x.right(3));
        CHECKS.due("12: by the one before it", 0, x.right(2));
        x.prefer(1);
        CHECKS.due("12: a feature that tells nothing, by the order", 0, x.right(0));
        CHECKS.due("12: the order is nothing to it", 4, x.right(3));
    }

    /** Terms: what is TOLD is told by the BOUND and the ORDER, with one feature alone too. */
    private static void rightByBoundAndOrder() {
        KindTables x = taughtAs(2, 0, 0, 0, 1);
        CHECKS.due("12: all of kind 0", 3, x.right(1));
        x.bound(2);
        CHECKS.due("12: two votes are as many as the bound", 3, x.right(1));
        x.bound(3);
        CHECKS.due("12: two votes are fewer than the bound", 0, x.right(1));
        KindTables alone = taughtAs(2, 1);
        alone.bound(0);
        CHECKS.due("12: bound 0, another one in front", 0, alone.right(0));
        alone.prefer(1);
        CHECKS.due("12: bound 0, itself in front", 1, alone.right(0));
    }

    /** Promise 12: "IndexOutOfBoundsException". */
    private static void rightOfNone() {
        for (Scene scene : Scene.ALL) {
            EDGES.range(scene, "12: right of feature", Checks.INDEX, new int[] {0, scene.features - 1}, KindTables::right);
        }
    }

    /** Promise 13: "(0 the first)", "of the same the lesser one". */
    private static void bestOfTheSame() {
        KindTables x = new KindTables(2, 8);
        for (int k = 0; k < 11; k++) {
            CHECKS.due("13: no examples, all the same", k, x.best(k));
        }
        x.example(0);
        x.example(0);
        x.value(0, 0, 2000);
        CHECKS.due("13: all but one the same", 1, x.best(0));
        CHECKS.due("13: the last of the same", 10, x.best(9));
        CHECKS.due("13: the one with less, last", 0, x.best(10));
        for (int feature = 1; feature < 10; feature++) {
            x.value(0, feature, 2000);
        }
        CHECKS.due("13: the last one is the only one", 10, x.best(0));
        CHECKS.due("13: then the least", 0, x.best(1));
        CHECKS.due("13: then the next", 9, x.best(10));
        x.value(0, 0, 0);
        CHECKS.due("13: the first and the last are the same", 0, x.best(0));
        CHECKS.due("13: then the last", 10, x.best(1));
        CHECKS.due("13: then the others", 1, x.best(2));
    }

    /** Promise 13: "IndexOutOfBoundsException: there are not so many". */
    private static void thereAreNotSoMany() {
        for (Scene scene : Scene.ALL) {
            EDGES.range(scene, "13: there are not so many", Checks.INDEX, new int[] {0, scene.features - 1}, KindTables::best);
        }
    }

    /** Promise 14: "How many of all EXAMPLES". */
    private static void unknownOfAll() {
        CHECKS.due("14: of none", 0, new KindTables(6, 8).unknown());
        CHECKS.due("14: one alone, taught", 1, taughtAs(1, 0).unknown());
        CHECKS.due("14: one alone, not taught", 1, taughtAs(1, -1).unknown());
        CHECKS.due("14: taught and not: only the taught one has no votes", 1, taughtAs(1, 0, -1).unknown());
        KindTables x = new KindTables(1, 1);
        for (int i = 0; i < 24; i++) {
            x.example(i % 2 - 1);
        }
        CHECKS.due("14: none of 24", 0, x.unknown());
        x.bound(1000);
        CHECKS.due("14: all 24", 24, x.unknown());
    }

    private static void fractionOfMixed(String text, KindTables x, int kind, int above, int below) {
        CHECKS.due(text + ", above", above, x.mixed(kind, 0));
        CHECKS.due(text + ", below", below, x.mixed(kind, 1));
    }

    /** Promise 15: "Of EXAMPLES that are not TAUGHT", "by how many are not UNKNOWN". */
    private static void mixedOfNotTaught() {
        KindTables x = taughtAs(2, 0, 0, 0, 1, 1, -1, -1, -1, -1, -1);
        for (int i = 3; i < 7; i++) {
            apart(x, i, 9);
        }
        fractionOfMixed("15: kind 0 of five", x, 0, 3, 5);
        fractionOfMixed("15: kind 1 of five", x, 1, 2, 5);
        apart(x, 9, 15);
        fractionOfMixed("15: an unknown one less, without a common divisor", x, 0, 1, 2);
        x.teach(8, 0);
        fractionOfMixed("15: a taught one less", x, 0, 1, 3);
        apart(x, 7, 9);
        fractionOfMixed("15: none as kind 0", x, 0, 0, 1);
        fractionOfMixed("15: all as kind 1", x, 1, 1, 1);
    }

    /** Terms: "0 / 1 if there is nothing by which it could be". */
    private static void mixedOfNobody() {
        fractionOfMixed("15: no examples", new KindTables(1, 1), 0, 0, 1);
        fractionOfMixed("15: all are taught", taughtAs(1, 0, 0), 0, 0, 1);
        fractionOfMixed("15: none is taught, all are unknown", taughtAs(1, -1, -1), 0, 0, 1);
    }

    /** Promise 15: "IndexOutOfBoundsException". */
    private static void mixedOfNone() {
        for (Scene scene : Scene.ALL) {
            EDGES.range(scene, "15: mixed of kind", Checks.INDEX, new int[] {0, scene.kinds - 1}, (x, n) -> x.mixed(n, 1));
            EDGES.range(scene, "15: part of mixed", Checks.INDEX, new int[] {0, 1}, (x, n) -> x.mixed(0, n));
        }
    }
}
