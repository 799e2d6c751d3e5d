/** The edges that the document names for all promises at once, a method for each sentence. */
public final class TermEdgesTest {
    private static final Checks CHECKS = new Checks();
    private static final Edges EDGES = new Edges(CHECKS);

    public static void main(String[] args) {
        widthAtFirst();
        numbersAtFirst();
        threeFeaturesMore();
        indexIsNamedFirst();
        argumentIsNamedBeforeState();
        indexIsNamedBeforeState();
        manyRefusalsChangeNothing();
        noneIsMinusOne();
        the512thCall();
        theSameQuestionUpToThe512thCall();
        objectsHaveNothingInCommon();
        CHECKS.end();
    }

    /** Terms: "each feature has a WIDTH (100 at first)". */
    private static void widthAtFirst() {
        KindTables x = new KindTables(1, 8);
        x.example(-1);
        for (int feature = 0; feature < 11; feature++) {
            x.value(0, feature, 99);
            CHECKS.due("5: 99 by 100", 0, x.cell(0, feature));
            x.value(0, feature, 100);
            CHECKS.due("5: 100 by 100", 1, x.cell(0, feature));
            CHECKS.due("5: 100 at first", 100, x.width(feature, 99));
            CHECKS.due("5: the last was", 99, x.width(feature, 1000));
        }
    }

    /** Terms: "a number 0 .. 2000 for each feature (0 at first)", whatever others have by then. */
    private static void numbersAtFirst() {
        KindTables x = new KindTables(1, 8);
        for (int i = 0; i < 24; i++) {
            x.example(0);
            for (int feature = 0; feature < 11; feature++) {
                CHECKS.due("3: 0 at first", false, x.value(i, feature, 0));
            }
            x.value(i, i % 11, 2000);
        }
        for (int i = 0; i < 24; i++) {
            CHECKS.due("3: what it was set to", 20, x.cell(i, i % 11));
            CHECKS.due("3: the others are 0 still", 0, x.cell(i, (i + 1) % 11));
        }
    }

    /** Terms: "and behind these three more: length, height, depth". */
    private static void threeFeaturesMore() {
        for (int frequencies = 1; frequencies <= 8; frequencies++) {
            KindTables x = new KindTables(1, frequencies);
            int last = frequencies + 2;
            x.example(0);
            CHECKS.due("3: depth is there", true, x.value(0, last, 2000));
            CHECKS.refused("3: nothing behind depth", Checks.INDEX, () -> x.value(0, last + 1, 0) ? 1 : 0);
        }
    }

    /** Terms: "of several exceptions the one named first": IndexOutOfBoundsException before IllegalArgumentException. */
    private static void indexIsNamedFirst() {
        int[] far = {Integer.MIN_VALUE, -101, -3, 2001, Integer.MAX_VALUE};
        for (Scene scene : Scene.ALL) {
            for (int n : far) {
                String text = " and " + n;
                refusedByIndex(scene, "3: no example" + text, x -> x.value(scene.examples, 0, n) ? 1 : 0);
                refusedByIndex(scene, "3: no feature" + text, x -> x.value(0, scene.features, n) ? 1 : 0);
                refusedByIndex(scene, "5: no feature" + text, x -> x.width(-1, n));
                refusedByIndex(scene, "17: no example" + text, x -> x.nearest(scene.examples, n));
                refusedByIndex(scene, "20: no haul" + text, x -> x.grams(scene.hauls, 0, n));
                refusedByIndex(scene, "20: no kind" + text, x -> x.grams(0, scene.kinds, n));
                refusedByIndex(scene, "21: no kind" + text, x -> x.share(n, 0, scene.kinds, 0));
                refusedByIndex(scene, "21: no part" + text, x -> x.share(0, n, 0, 2));
                refusedByIndex(scene, "22: no kind and a length" + text, x -> x.law(scene.kinds, n, 0));
                refusedByIndex(scene, "22: no kind and a strength" + text, x -> x.law(-1, 500, n));
            }
        }
    }

    private static void refusedByIndex(Scene scene, String text, Edges.Call call) {
        EDGES.refused(scene, text, Checks.INDEX, call);
    }

    /** The same: IllegalArgumentException before IllegalStateException. */
    private static void argumentIsNamedBeforeState() {
        Scene scene = Scene.FULL;
        for (int n : new int[] {Integer.MIN_VALUE, -101, 101, Integer.MAX_VALUE}) {
            EDGES.refused(scene, "19: there are 12 and x is " + n, Checks.ARGUMENT, x -> x.haul(n, 0));
            EDGES.refused(scene, "19: there are 12 and y is " + n, Checks.ARGUMENT, x -> x.haul(0, n));
        }
        int last = scene.lastLength(0);
        for (int n : new int[] {Integer.MIN_VALUE, -1, 0, 1, last - 1, last, 1001, Integer.MAX_VALUE}) {
            EDGES.refused(scene, "22: it has 6 and length is " + n, Checks.ARGUMENT, x -> x.law(0, n, 5));
        }
        for (int n : new int[] {Integer.MIN_VALUE, -1, 2001, Integer.MAX_VALUE}) {
            EDGES.refused(scene, "22: it has 6 and strength is " + n, Checks.ARGUMENT, x -> x.law(0, 1000, n));
        }
    }

    /** The same: IndexOutOfBoundsException before IllegalStateException. */
    private static void indexIsNamedBeforeState() {
        for (int n : new int[] {Integer.MIN_VALUE, -2, 6, Integer.MAX_VALUE}) {
            EDGES.refused(Scene.FULL, "2: there are 24 and no kind " + n, Checks.INDEX, x -> x.example(n));
        }
        for (int n : new int[] {Integer.MIN_VALUE, -1, 6, Integer.MAX_VALUE}) {
            EDGES.refused(Scene.FULL, "22: rows are full and no kind " + n, Checks.INDEX, x -> x.law(n, 1000, 5));
        }
    }

    /** Terms: "A call that throws changes nothing", however many there are between others. */
    private static void manyRefusalsChangeNothing() {
        KindTables x = new KindTables(2, 1);
        for (int i = 0; i < 24; i++) {
            CHECKS.refused("2: no kind", Checks.INDEX, () -> x.example(2));
            CHECKS.due("2: the next number", i, x.example(1));
        }
        for (int i = 0; i < 12; i++) {
            CHECKS.refused("19: no place", Checks.ARGUMENT, () -> x.haul(101, 0));
            CHECKS.due("19: the next number", i, x.haul(0, 0));
        }
        for (int row = 1; row <= 6; row++) {
            int length = row;
            CHECKS.refused("22: too strong", Checks.ARGUMENT, () -> x.law(1, 900 + length, 2001));
            CHECKS.due("22: the next row", row, x.law(1, row, 5));
        }
        for (int i = 0; i < 30; i++) {
            CHECKS.refused("2: there are 24", Checks.STATE, () -> x.example(0));
            CHECKS.refused("19: there are 12", Checks.STATE, () -> x.haul(0, 0));
            CHECKS.refused("22: it has 6", Checks.STATE, () -> x.law(1, 7, 5));
        }
        CHECKS.due("2: there are 24", 24, x.count(0));
        CHECKS.due("2: all taught", 24, x.count(1));
        CHECKS.due("19: there are 12", 12, x.count(2));
        CHECKS.due("22: no 7th row", -1, x.strength(1, 7));
    }

    /** Terms: "NONE = -1: There is none; UNKNOWN; not TAUGHT". */
    private static void noneIsMinusOne() {
        KindTables x = new KindTables(1, 1);
        CHECKS.due("the constant", -1, KindTables.NONE);
        x.example(KindTables.NONE);
        CHECKS.due("not TAUGHT", KindTables.NONE, x.teach(0, KindTables.NONE));
        CHECKS.due("UNKNOWN", KindTables.NONE, x.tell(0));
        CHECKS.due("there is no nearest", KindTables.NONE, x.nearest(0, 0));
        CHECKS.due("there is no strength", KindTables.NONE, x.strength(0, 1));
        CHECKS.due("there is no length", KindTables.NONE, x.length(0, 1));
        CHECKS.due("there is no such count", KindTables.NONE, x.count(5));
    }

    /** "An object is used for at most 512 calls": the last of them still answers, and changes what it should. */
    private static void the512thCall() {
        KindTables y = new KindTables(2, 1);
        CHECKS.due("2: the first call", 0, y.example(-1));
        for (int call = 2; call <= 511; call++) {
            CHECKS.due("3: call " + call, true, y.value(0, 3, call % 2 == 0 ? 2000 : 0));
        }
        CHECKS.due("6: the 512th call", 0, y.cell(0, 3));
        KindTables z = new KindTables(1, 1);
        for (int call = 1; call <= 511; call++) {
            CHECKS.refused("8: refused, call " + call, Checks.INDEX, () -> z.tell(0));
        }
        CHECKS.due("2: the 512th call, all others refused", 0, z.example(0));
    }

    /** The same: a question asked 511 times, behind the one call that makes an example, has one answer. */
    private static void theSameQuestionUpToThe512thCall() {
        Edges.Call[] questions = {
            x -> x.cell(0, 0), x -> x.votes(0, 0), x -> x.tell(0), x -> x.wrong(0, -1, 1), x -> x.right(0),
            x -> x.best(1), x -> x.unknown(), x -> x.mixed(0, 1), x -> x.groups(0), x -> x.nearest(0, 0),
            x -> x.distance(0, 0), x -> x.share(0, 0, 0, 1), x -> x.strength(0, 1), x -> x.length(0, 1),
            x -> x.count(0), x -> x.teach(0, 0), x -> x.width(0, 100), x -> x.bound(1), x -> x.prefer(0)};
        long[] due = {0, 0, -1, 1, 0, 1, 1, 1, 1, -1, 0, 1, -1, -1, 1, 0, 100, 1, 0};
        for (int i = 0; i < questions.length; i++) {
            KindTables x = new KindTables(2, 1);
            x.example(0);
            for (int call = 2; call <= 512; call++) {
                CHECKS.due("question " + i + ", call " + call, due[i], questions[i].answer(x));
            }
        }
    }

    /** Nothing of one object is seen in another. */
    private static void objectsHaveNothingInCommon() {
        KindTables first = Scene.FULL.make();
        KindTables second = new KindTables(6, 8);
        CHECKS.due("2: the first number of the second", 0, second.example(-1));
        CHECKS.due("19: the first haul of the second", 0, second.haul(0, 0));
        CHECKS.due("22: the first row of the second", 1, second.law(0, 1, 1));
        CHECKS.due("5: the first width of the second", 100, second.width(0, 1));
        CHECKS.due("9: the first bound of the second", 1, second.bound(1000));
        CHECKS.due("10: the first order of the second", 5, second.prefer(5));
        CHECKS.due("9: the first has its own bound", 2, first.bound(2));
        CHECKS.due("2: the first has its own examples", 24, first.count(0));
    }
}
