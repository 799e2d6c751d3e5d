/** Promises 7 to 15: votes, what is told by them, and how well. */
public final class TellingTest {
    private static final Checks CHECKS = new Checks();

    public static void main(String[] args) {
        votes();
        tellingAndBound();
        order();
        wrongs();
        rightsAndBest();
        unknowns();
        mixes();
        CHECKS.end();
    }

    /** Kind 0 twice, kind 1 once, one not taught; 4 features, told apart by features 0 and 1. */
    private static KindTables school() {
        KindTables x = new KindTables(3, 1);
        x.example(0);
        x.example(0);
        x.example(1);
        x.example(-1);
        x.value(0, 0, 150);
        x.value(1, 0, 199);
        x.value(2, 0, 200);
        x.value(3, 0, 100);
        x.value(0, 1, 300);
        x.value(1, 1, 400);
        x.value(2, 1, 399);
        x.value(3, 1, 500);
        return x;
    }

    private static void votes() {
        KindTables x = school();
        CHECKS.due("7: three features each of two", 6, x.votes(3, 0));
        CHECKS.due("7: two features of one", 2, x.votes(3, 1));
        CHECKS.due("7: of none", 0, x.votes(3, 2));
        CHECKS.due("7: itself does not vote", 3, x.votes(0, 0));
        CHECKS.due("7: same cell though another number", 3, x.votes(0, 1));
        CHECKS.due("7: who is not taught does not vote", 0, x.votes(2, 1));
        CHECKS.refused("7: no kind", Checks.INDEX, () -> x.votes(0, 3));
        CHECKS.refused("7: not taught is no kind", Checks.INDEX, () -> x.votes(0, -1));
        CHECKS.refused("7: no example", Checks.INDEX, () -> x.votes(4, 0));
        CHECKS.refused("7: example -1", Checks.INDEX, () -> x.votes(-1, 0));
    }

    private static void tellingAndBound() {
        KindTables x = school();
        CHECKS.due("8: most votes", 0, x.tell(3));
        CHECKS.due("9: was 1", 1, x.bound(6));
        CHECKS.due("8: as many as the bound", 0, x.tell(3));
        CHECKS.due("9: was 6", 6, x.bound(7));
        CHECKS.due("8: fewer than the bound", -1, x.tell(3));
        CHECKS.refused("9: -1", Checks.ARGUMENT, () -> x.bound(-1));
        CHECKS.refused("9: 1001", Checks.ARGUMENT, () -> x.bound(1001));
        CHECKS.due("9: nothing changed", 7, x.bound(1000));
        CHECKS.due("9: was 1000", 1000, x.bound(0));
        CHECKS.refused("8: no example", Checks.INDEX, () -> x.tell(4));
        CHECKS.refused("8: example -1", Checks.INDEX, () -> x.tell(-1));

        KindTables alone = new KindTables(2, 1);
        alone.example(1);
        CHECKS.due("8: nobody else votes", -1, alone.tell(0));
        alone.bound(0);
        CHECKS.due("8: no votes are enough for a bound of 0", 0, alone.tell(0));
        alone.prefer(1);
        CHECKS.due("8: the first in the order then", 1, alone.tell(0));
    }

    private static void order() {
        KindTables x = school();
        CHECKS.due("8: a tie by the first order", 0, x.tell(0));
        CHECKS.due("10: 1 had place 1", 1, x.prefer(1));
        CHECKS.due("8: a tie by the new order", 1, x.tell(0));
        CHECKS.due("8: no tie", 0, x.tell(3));
        CHECKS.due("10: 2 had place 2", 2, x.prefer(2));
        CHECKS.due("8: in front without votes", 1, x.tell(0));
        CHECKS.due("10: 0 went behind both", 2, x.prefer(0));
        CHECKS.due("10: 0 is in front already", 0, x.prefer(0));
        CHECKS.due("10: then 2", 1, x.prefer(2));
        CHECKS.due("10: 1 stayed behind", 2, x.prefer(1));
        CHECKS.refused("10: no kind", Checks.INDEX, () -> x.prefer(3));
        CHECKS.refused("10: kind -1", Checks.INDEX, () -> x.prefer(-1));
        CHECKS.due("10: nothing changed", 0, x.prefer(1));
    }

    private static void fraction(String call, int above, int below, int gotAbove, int gotBelow) {
        CHECKS.due(call + ", above", above, gotAbove);
        CHECKS.due(call + ", below", below, gotBelow);
    }

    private static void fractionOfWrong(KindTables x, int kind, int as, int above, int below) {
        fraction("11: wrong of " + kind + " as " + as, above, below, x.wrong(kind, as, 0), x.wrong(kind, as, 1));
    }

    private static void wrongs() {
        KindTables x = school();
        fractionOfWrong(x, 0, 0, 1, 1);
        fractionOfWrong(x, 0, 1, 0, 1);
        fractionOfWrong(x, 1, 0, 1, 1);
        fractionOfWrong(x, 2, 0, 0, 1);
        fractionOfWrong(x, 2, -1, 0, 1);
        x.bound(4);
        fractionOfWrong(x, 0, -1, 1, 1);
        fractionOfWrong(x, 1, -1, 0, 1);
        x.bound(1);
        x.value(0, 0, 250);
        fractionOfWrong(x, 0, 1, 1, 2);
        fractionOfWrong(x, 0, 0, 1, 2);
        x.example(0);
        x.example(0);
        fractionOfWrong(x, 0, 1, 0, 1);
        CHECKS.refused("11: no kind", Checks.INDEX, () -> x.wrong(3, 0, 0));
        CHECKS.refused("11: not taught is no kind", Checks.INDEX, () -> x.wrong(-1, 0, 0));
        CHECKS.refused("11: as no kind", Checks.INDEX, () -> x.wrong(0, 3, 0));
        CHECKS.refused("11: as -2", Checks.INDEX, () -> x.wrong(0, -2, 0));
        CHECKS.refused("11: part 2", Checks.INDEX, () -> x.wrong(0, 0, 2));
        CHECKS.refused("11: part -1", Checks.INDEX, () -> x.wrong(0, 0, -1));

        KindTables six = new KindTables(2, 1);
        for (int i = 0; i < 6; i++) {
            six.example(0);
            six.value(i, 0, i < 4 ? 0 : 400 * i);
        }
        six.width(1, 1);
        six.bound(16);
        fractionOfWrong(six, 0, 0, 2, 3);
        fractionOfWrong(six, 0, -1, 1, 3);
    }

    private static void rightsAndBest() {
        KindTables x = school();
        CHECKS.due("12: both of kind 0", 2, x.right(0));
        CHECKS.due("12: the tie in each other's cell is lost", 0, x.right(1));
        CHECKS.due("12: all in one cell, by the order", 2, x.right(2));
        int[] order = {0, 2, 3, 1};
        for (int k = 0; k < 4; k++) {
            CHECKS.due("13: place " + k, order[k], x.best(k));
        }
        x.prefer(1);
        CHECKS.due("12: by another order", 0, x.right(2));
        CHECKS.due("13: best by another order", 0, x.best(0));
        CHECKS.due("13: second by another order", 1, x.best(1));
        x.bound(2);
        CHECKS.due("12: one vote is below the bound", 0, x.right(0));
        x.width(0, 1000);
        CHECKS.due("12: in one wide cell 2 is told as kind 0", 0, x.right(0));
        CHECKS.refused("12: no feature", Checks.INDEX, () -> x.right(4));
        CHECKS.refused("12: feature -1", Checks.INDEX, () -> x.right(-1));
        CHECKS.refused("13: there are 4", Checks.INDEX, () -> x.best(4));
        CHECKS.refused("13: -1", Checks.INDEX, () -> x.best(-1));

        KindTables later = new KindTables(2, 8);
        later.example(0);
        later.example(1);
        later.example(1);
        for (int feature = 0; feature < 11; feature++) {
            later.value(0, feature, 1000);
        }
        later.value(1, 9, 1000);
        CHECKS.due("12: a pair in the wrong cells", 0, later.right(9));
        CHECKS.due("12: a pair in one cell", 2, later.right(10));
        CHECKS.due("13: the worst is last", 9, later.best(10));
        CHECKS.due("13: the others keep their order", 10, later.best(9));
    }

    private static void unknowns() {
        CHECKS.due("14: no examples", 0, new KindTables(1, 1).unknown());
        KindTables x = school();
        CHECKS.due("14: all are told", 0, x.unknown());
        x.bound(5);
        CHECKS.due("14: all but 2 and 3", 2, x.unknown());
        x.bound(6);
        CHECKS.due("14: all but 3", 3, x.unknown());
        x.bound(7);
        CHECKS.due("14: taught or not", 4, x.unknown());
        x.bound(0);
        CHECKS.due("14: a bound of 0", 0, x.unknown());
    }

    private static void fractionOfMixed(KindTables x, int kind, int above, int below) {
        fraction("15: mixed of " + kind, above, below, x.mixed(kind, 0), x.mixed(kind, 1));
    }

    private static void mixes() {
        KindTables x = new KindTables(3, 1);
        fractionOfMixed(x, 0, 0, 1);
        x.example(0);
        x.example(1);
        for (int feature = 0; feature < 4; feature++) {
            x.value(1, feature, 1000);
        }
        fractionOfMixed(x, 0, 0, 1);
        for (int i = 2; i < 10; i++) {
            x.example(-1);
            for (int feature = 0; feature < 4; feature++) {
                x.value(i, feature, i < 4 ? 0 : i < 8 ? 1000 : 2000);
            }
        }
        fractionOfMixed(x, 0, 1, 3);
        fractionOfMixed(x, 1, 2, 3);
        fractionOfMixed(x, 2, 0, 1);
        x.bound(5);
        fractionOfMixed(x, 1, 0, 1);
        CHECKS.refused("15: no kind", Checks.INDEX, () -> x.mixed(3, 0));
        CHECKS.refused("15: kind -1", Checks.INDEX, () -> x.mixed(-1, 0));
        CHECKS.refused("15: part 2", Checks.INDEX, () -> x.mixed(0, 2));
        CHECKS.refused("15: part -1", Checks.INDEX, () -> x.mixed(0, -1));
    }
}
