/** Promises 1 to 6 and 25: a new object, its examples, their numbers and cells, and what there is of each. */
public final class ExamplesTest {
    private static final Checks CHECKS = new Checks();

    public static void main(String[] args) {
        newObjects();
        examples();
        values();
        teaching();
        widthsAndCells();
        counts();
        CHECKS.end();
    }

    private static void newObjects() {
        int[] asked = {Integer.MIN_VALUE, -1, 0, 1, 2, 5, 6, 7, 8, 9, Integer.MAX_VALUE};
        int[] kinds = {1, 1, 1, 1, 2, 5, 6, 6, 6, 6, 6};
        int[] features = {4, 4, 4, 4, 5, 8, 9, 10, 11, 11, 11};
        for (int i = 0; i < asked.length; i++) {
            KindTables x = new KindTables(asked[i], asked[i]);
            CHECKS.due("1: kinds of " + asked[i], kinds[i], x.count(3));
            CHECKS.due("1: features of " + asked[i], features[i], x.count(4));
        }
        KindTables x = new KindTables(6, 8);
        for (int feature = 0; feature < 11; feature++) {
            CHECKS.due("1: first width", 100, x.width(feature, 1));
        }
        CHECKS.due("1: first bound", 1, x.bound(1));
        for (int kind = 5; kind >= 0; kind--) {
            CHECKS.due("1: first order", 5, new KindTables(6, 1).prefer(5));
            CHECKS.due("1: order of " + kind, kind, new KindTables(6, 1).prefer(kind));
        }
    }

    private static void examples() {
        KindTables x = new KindTables(2, 1);
        CHECKS.refused("2: example(2)", Checks.INDEX, () -> x.example(2));
        CHECKS.refused("2: example(-2)", Checks.INDEX, () -> x.example(-2));
        for (int i = 0; i < 24; i++) {
            CHECKS.due("2: example", i, x.example(i % 3 - 1));
        }
        CHECKS.refused("2: 25th", Checks.STATE, () -> x.example(0));
        CHECKS.refused("2: 25th, not taught", Checks.STATE, () -> x.example(-1));
        CHECKS.refused("2: 25th of no kind", Checks.INDEX, () -> x.example(2));
        CHECKS.due("2: all kept", 24, x.count(0));
        CHECKS.due("2: taught as told", 1, x.teach(23, 0));
        CHECKS.due("2: not taught", -1, x.teach(21, 0));
    }

    private static void values() {
        KindTables x = new KindTables(1, 1);
        x.example(0);
        CHECKS.due("3: 0 at first", false, x.value(0, 0, 0));
        CHECKS.due("3: another", true, x.value(0, 0, 2000));
        CHECKS.due("3: the same", false, x.value(0, 0, 2000));
        CHECKS.due("3: last feature", true, x.value(0, 3, 1));
        CHECKS.due("3: kept", 20, x.cell(0, 0));
        CHECKS.refused("3: no example", Checks.INDEX, () -> x.value(1, 0, -1) ? 1 : 0);
        CHECKS.refused("3: example -1", Checks.INDEX, () -> x.value(-1, 0, 0) ? 1 : 0);
        CHECKS.refused("3: no feature", Checks.INDEX, () -> x.value(0, 4, 2001) ? 1 : 0);
        CHECKS.refused("3: feature -1", Checks.INDEX, () -> x.value(0, -1, 0) ? 1 : 0);
        CHECKS.refused("3: -1", Checks.ARGUMENT, () -> x.value(0, 0, -1) ? 1 : 0);
        CHECKS.refused("3: 2001", Checks.ARGUMENT, () -> x.value(0, 0, 2001) ? 1 : 0);
        CHECKS.due("3: nothing changed", false, x.value(0, 0, 2000));
    }

    private static void teaching() {
        KindTables x = new KindTables(3, 1);
        x.example(-1);
        CHECKS.due("4: was not taught", -1, x.teach(0, 2));
        CHECKS.due("4: was 2", 2, x.teach(0, 0));
        CHECKS.refused("4: no kind", Checks.INDEX, () -> x.teach(0, 3));
        CHECKS.refused("4: kind -2", Checks.INDEX, () -> x.teach(0, -2));
        CHECKS.refused("4: no example", Checks.INDEX, () -> x.teach(1, 0));
        CHECKS.refused("4: example -1", Checks.INDEX, () -> x.teach(-1, 0));
        CHECKS.due("4: was 0", 0, x.teach(0, -1));
        CHECKS.due("4: was not taught again", -1, x.teach(0, -1));
    }

    private static void widthsAndCells() {
        KindTables x = new KindTables(1, 2);
        x.example(-1);
        x.value(0, 4, 1999);
        CHECKS.due("6: by 100", 19, x.cell(0, 4));
        CHECKS.due("5: was 100", 100, x.width(4, 1000));
        CHECKS.due("6: by 1000", 1, x.cell(0, 4));
        CHECKS.due("5: was 1000", 1000, x.width(4, 1));
        CHECKS.due("6: by 1", 1999, x.cell(0, 4));
        CHECKS.due("6: other feature", 0, x.cell(0, 3));
        CHECKS.refused("5: 0", Checks.ARGUMENT, () -> x.width(4, 0));
        CHECKS.refused("5: 1001", Checks.ARGUMENT, () -> x.width(4, 1001));
        CHECKS.refused("5: no feature", Checks.INDEX, () -> x.width(5, 0));
        CHECKS.refused("5: feature -1", Checks.INDEX, () -> x.width(-1, 5));
        CHECKS.due("5: nothing changed", 1, x.width(4, 500));
        CHECKS.due("5: other feature", 100, x.width(3, 500));
        CHECKS.refused("6: no feature", Checks.INDEX, () -> x.cell(0, 5));
        CHECKS.refused("6: feature -1", Checks.INDEX, () -> x.cell(0, -1));
        CHECKS.refused("6: no example", Checks.INDEX, () -> x.cell(1, 0));
        CHECKS.refused("6: example -1", Checks.INDEX, () -> x.cell(-1, 0));
    }

    private static void counts() {
        KindTables x = new KindTables(4, 3);
        for (int what = 0; what < 3; what++) {
            CHECKS.due("25: nothing yet of " + what, 0, x.count(what));
        }
        x.example(3);
        x.example(-1);
        x.example(0);
        x.haul(1, 1);
        CHECKS.due("25: examples", 3, x.count(0));
        CHECKS.due("25: taught", 2, x.count(1));
        CHECKS.due("25: hauls", 1, x.count(2));
        CHECKS.due("25: kinds", 4, x.count(3));
        CHECKS.due("25: features", 6, x.count(4));
        CHECKS.due("25: 5", -1, x.count(5));
        CHECKS.due("25: -1", -1, x.count(-1));
        CHECKS.due("25: least int", -1, x.count(Integer.MIN_VALUE));
        x.teach(0, -1);
        CHECKS.due("25: one taught less", 1, x.count(1));
    }
}
