/** A state in which calls are tried; it is made anew for each try, so that no object sees more than 512 calls. */
final class Scene {
    static final Scene EMPTY = new Scene("empty", 1, 1, 0, 0, 0);
    static final Scene SOME = new Scene("some", 3, 2, 7, 3, 2);
    static final Scene FULL = new Scene("full", 6, 8, 24, 12, 6);
    static final Scene[] ALL = {EMPTY, SOME, FULL};

    final String name;
    final int kinds;
    final int features;
    final int examples;
    final int hauls;
    final int rows;

    private Scene(String name, int kinds, int frequencies, int examples, int hauls, int rows) {
        this.name = name;
        this.kinds = kinds;
        this.features = frequencies + 3;
        this.examples = examples;
        this.hauls = hauls;
        this.rows = rows;
    }

    /** The length of the last row of a kind's law. */
    int lastLength(int kind) {
        return rows == 0 ? 0 : 3 + 7 * (rows - 1) + kind;
    }

    /** Fewer than 200 calls; everything that can be changed is changed, so that a loss of it can be seen. */
    KindTables make() {
        KindTables x = new KindTables(kinds, features - 3);
        x.width(0, 50);
        x.width(features - 1, 1000);
        x.bound(2);
        x.prefer(kinds - 1);
        for (int i = 0; i < examples; i++) {
            x.example(i % (kinds + 1) - 1);
            x.value(i, i % features, 70 * i);
            x.value(i, (i + 1) % features, 2000 - 80 * i);
        }
        for (int i = 0; i < hauls; i++) {
            x.haul(9 * i - 50, 40 - 7 * i);
            x.grams(i, i % kinds, 10 + i);
            x.grams(i, (i + 2) % kinds, 5 * i);
        }
        for (int kind = 0; kind < kinds; kind++) {
            for (int row = 0; row < rows; row++) {
                x.law(kind, 3 + 7 * row + kind, (row * 37 + kind * 11) % 90);
            }
        }
        return x;
    }
}
