/** Promises 22 to 24: rows of laws, strengths by lengths and lengths by strengths. */
public final class LawsTest {
    private static final Checks CHECKS = new Checks();

    public static void main(String[] args) {
        rows();
        strengths();
        lengths();
        CHECKS.end();
    }

    private static void rows() {
        KindTables x = new KindTables(2, 1);
        CHECKS.refused("22: length 0", Checks.ARGUMENT, () -> x.law(0, 0, 0));
        CHECKS.refused("22: length 1001", Checks.ARGUMENT, () -> x.law(0, 1001, 0));
        CHECKS.refused("22: strength -1", Checks.ARGUMENT, () -> x.law(0, 1, -1));
        CHECKS.refused("22: strength 2001", Checks.ARGUMENT, () -> x.law(0, 1, 2001));
        CHECKS.refused("22: no kind", Checks.INDEX, () -> x.law(2, 0, 0));
        CHECKS.refused("22: kind -1", Checks.INDEX, () -> x.law(-1, 1, 0));
        CHECKS.due("22: first row", 1, x.law(0, 1, 2000));
        CHECKS.refused("22: the same length", Checks.ARGUMENT, () -> x.law(0, 1, 5));
        CHECKS.due("22: second row", 2, x.law(0, 2, 0));
        CHECKS.refused("22: a lesser length", Checks.ARGUMENT, () -> x.law(0, 1, 5));
        for (int row = 3; row <= 6; row++) {
            CHECKS.due("22: row", row, x.law(0, row, row));
        }
        CHECKS.refused("22: 7th row", Checks.STATE, () -> x.law(0, 1000, 5));
        CHECKS.refused("22: 7th row not above", Checks.ARGUMENT, () -> x.law(0, 6, 5));
        CHECKS.refused("22: 7th row too long", Checks.ARGUMENT, () -> x.law(0, 1001, 5));
        CHECKS.refused("22: 7th row too strong", Checks.ARGUMENT, () -> x.law(0, 7, 2001));
        CHECKS.due("22: nothing changed", 6, x.strength(0, 6));
        CHECKS.due("22: no 7th row", -1, x.strength(0, 7));
        CHECKS.due("22: each kind has its own", 1, x.law(1, 1000, 0));
    }

    private static void strengths() {
        KindTables x = new KindTables(2, 1);
        CHECKS.due("23: no rows", -1, x.strength(0, 1));
        x.law(0, 10, 100);
        CHECKS.due("23: one row", 100, x.strength(0, 10));
        CHECKS.due("23: before one row", -1, x.strength(0, 9));
        CHECKS.due("23: behind one row", -1, x.strength(0, 11));
        x.law(0, 13, 102);
        x.law(0, 16, 100);
        int[] due = {-1, 100, 100, 101, 102, 101, 100, 100, -1};
        for (int i = 0; i < due.length; i++) {
            CHECKS.due("23: at " + (9 + i), due[i], x.strength(0, 9 + i));
        }
        CHECKS.due("23: least int", -1, x.strength(0, Integer.MIN_VALUE));
        CHECKS.due("23: greatest int", -1, x.strength(0, Integer.MAX_VALUE));
        CHECKS.due("23: 0", -1, x.strength(0, 0));
        CHECKS.due("23: other kind", -1, x.strength(1, 10));
        x.law(1, 1, 2000);
        x.law(1, 1000, 0);
        CHECKS.due("23: just before the end of a long fall", 2, x.strength(1, 999));
        CHECKS.due("23: just behind its start", 1997, x.strength(1, 2));
        CHECKS.refused("23: no kind", Checks.INDEX, () -> x.strength(2, 10));
        CHECKS.refused("23: kind -1", Checks.INDEX, () -> x.strength(-1, 10));
    }

    private static void lengths() {
        KindTables x = new KindTables(2, 1);
        CHECKS.due("24: no rows", -1, x.length(0, 0));
        x.law(0, 10, 100);
        x.law(0, 20, 50);
        x.law(0, 40, 107);
        x.law(0, 41, 2000);
        CHECKS.due("24: at the first row", 10, x.length(0, 100));
        CHECKS.due("24: any less", 10, x.length(0, Integer.MIN_VALUE));
        CHECKS.due("24: behind a fall", 38, x.length(0, 101));
        CHECKS.due("24: a step on", 39, x.length(0, 104));
        CHECKS.due("24: at a row", 40, x.length(0, 107));
        CHECKS.due("24: just above a row", 41, x.length(0, 108));
        CHECKS.due("24: at the last row", 41, x.length(0, 2000));
        CHECKS.due("24: more than any", -1, x.length(0, 2001));
        CHECKS.due("24: greatest int", -1, x.length(0, Integer.MAX_VALUE));
        x.law(1, 10, 100);
        x.law(1, 20, 135);
        int[] due = {10, 11, 11, 11, 12};
        for (int i = 0; i < due.length; i++) {
            CHECKS.due("24: behind the first row, " + (100 + i), due[i], x.length(1, 100 + i));
        }
        CHECKS.refused("24: no kind", Checks.INDEX, () -> x.length(2, 10));
        CHECKS.refused("24: kind -1", Checks.INDEX, () -> x.length(-1, 10));
    }
}
