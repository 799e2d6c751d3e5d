/** Promises 16 to 18: groups, nearest examples and distances. */
public final class NearnessTest {
    private static final Checks CHECKS = new Checks();

    public static void main(String[] args) {
        groups();
        nearest();
        distances();
        full();
        CHECKS.end();
    }

    private static void groups() {
        KindTables x = new KindTables(1, 1);
        CHECKS.due("16: no examples", 0, x.groups(0));
        CHECKS.due("16: no examples by all", 0, x.groups(4));
        for (int i = 0; i < 5; i++) {
            x.example(-1);
        }
        CHECKS.due("16: all the same", 1, x.groups(4));
        int[][] rows = {{0, 0, 900, 900}, {500, 500, 500, 500}, {0, 50, 100, 100}, {500, 100, 199, 100}, {1500, 1500, 1500, 1500}};
        for (int i = 0; i < rows.length; i++) {
            for (int feature = 0; feature < 4; feature++) {
                x.value(i, feature, rows[i][feature]);
            }
        }
        CHECKS.due("16: by 0 all hang together", 1, x.groups(0));
        CHECKS.due("16: by 1 a chain of four", 2, x.groups(1));
        CHECKS.due("16: by 2", 3, x.groups(2));
        CHECKS.due("16: by 3", 5, x.groups(3));
        CHECKS.due("16: by 4", 5, x.groups(4));
        CHECKS.refused("16: -1", Checks.ARGUMENT, () -> x.groups(-1));
        CHECKS.refused("16: 5", Checks.ARGUMENT, () -> x.groups(5));
        CHECKS.due("16: the same again", 2, x.groups(1));
    }

    private static void nearest() {
        KindTables x = new KindTables(2, 1);
        int[] numbers = {10, 13, 7, 10, 13, 2000};
        for (int i = 0; i < numbers.length; i++) {
            x.example(i % 2);
            x.value(i, 3, numbers[i]);
        }
        x.teach(1, -1);
        int[] nearest = {3, 2, 4, 5, -1, -1};
        for (int k = 0; k < nearest.length; k++) {
            CHECKS.due("17: place " + k, nearest[k], x.nearest(0, k));
        }
        CHECKS.due("17: to one that is not taught", 4, x.nearest(1, 0));
        CHECKS.due("17: of the same the lesser one", 0, x.nearest(1, 1));
        CHECKS.due("17: then the other", 3, x.nearest(1, 2));
        CHECKS.due("17: the greatest k", -1, x.nearest(1, Integer.MAX_VALUE));
        CHECKS.refused("17: k -1", Checks.ARGUMENT, () -> x.nearest(0, -1));
        CHECKS.refused("17: no example", Checks.INDEX, () -> x.nearest(6, -1));
        CHECKS.refused("17: example -1", Checks.INDEX, () -> x.nearest(-1, 0));
    }

    private static void distances() {
        KindTables x = new KindTables(1, 8);
        x.example(-1);
        x.example(0);
        CHECKS.due("18: the same", 0, x.distance(0, 1));
        for (int feature = 0; feature < 11; feature++) {
            x.value(1, feature, feature + 1);
        }
        CHECKS.due("18: 1 and 4 and .. and 121", 506, x.distance(0, 1));
        CHECKS.due("18: from the other one", 506, x.distance(1, 0));
        CHECKS.due("18: to itself", 0, x.distance(1, 1));
        for (int feature = 0; feature < 11; feature++) {
            x.value(1, feature, 2000);
        }
        CHECKS.due("18: the greatest", 44000000, x.distance(0, 1));
        CHECKS.refused("18: no other", Checks.INDEX, () -> x.distance(0, 2));
        CHECKS.refused("18: other -1", Checks.INDEX, () -> x.distance(0, -1));
        CHECKS.refused("18: no example", Checks.INDEX, () -> x.distance(2, 0));
        CHECKS.refused("18: example -1", Checks.INDEX, () -> x.distance(-1, 0));
    }

    private static void full() {
        KindTables x = new KindTables(1, 8);
        for (int i = 0; i < 24; i++) {
            x.example(0);
            x.value(i, 0, 80 * i);
        }
        CHECKS.due("16: 24 examples by all but one feature", 1, x.groups(10));
        CHECKS.due("16: 24 examples by all features: cells 0 to 18", 19, x.groups(11));
        CHECKS.due("17: the last of 23", 0, x.nearest(23, 22));
        CHECKS.due("17: not so many of 24", -1, x.nearest(23, 23));
        CHECKS.due("18: first and last of 24", 1840 * 1840, x.distance(0, 23));
    }
}
