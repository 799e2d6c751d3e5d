/** Kinds of what swims, told by its echoes; see README.md for how it is used. */
public final class KindTables {
    public static final int NONE = -1;

    private static final int MOST_KINDS = 6;
    private static final int MOST_FREQUENCIES = 8;
    private static final int SHAPES = 3;
    private static final int MOST_EXAMPLES = 24;
    private static final int MOST_NUMBER = 2000;
    private static final int FIRST_WIDTH = 100;
    private static final int MOST_WIDTH = 1000;
    private static final int FIRST_BOUND = 1;
    private static final int MOST_BOUND = 1000;
    private static final int MOST_HAULS = 12;
    private static final int MOST_PLACE = 100;
    private static final int MOST_GRAMS = 1000;
    private static final int MOST_ROWS = 6;
    private static final int MOST_LENGTH = 1000;
    private static final int MOST_STRENGTH = 2000;
    private static final int ABOVE = 0;
    private static final int BELOW = 1;
    private static final int MOST_DIVISIONS = 1000;

    private final int kinds;
    private final int features;
    private final Examples examples;
    private final Teller teller;
    private final Hauls hauls;
    private final Law[] laws;

    public KindTables(int kinds, int frequencies) {
        this.kinds = Math.max(1, Math.min(MOST_KINDS, kinds));
        this.features = Math.max(1, Math.min(MOST_FREQUENCIES, frequencies)) + SHAPES;
        this.examples = new Examples(this.features);
        this.teller = new Teller(this.examples, this.kinds);
        this.hauls = new Hauls(this.kinds);
        this.laws = new Law[this.kinds];
        for (int kind = 0; kind < this.kinds; kind++) {
            this.laws[kind] = new Law();
        }
    }

    public int example(int kind) throws IndexOutOfBoundsException, IllegalStateException {
        needKindOrNone(kind);
        if (examples.size >= MOST_EXAMPLES) {
            throw new IllegalStateException("no room for another example");
        }
        return examples.add(kind);
    }

    public boolean value(int example, int feature, int v) throws IndexOutOfBoundsException, IllegalArgumentException {
        needExample(example);
        needFeature(feature);
        needWithin(v, 0, MOST_NUMBER);
        int before = examples.numbers[example][feature];
        examples.numbers[example][feature] = v;
        return before != v;
    }

    public int teach(int example, int kind) throws IndexOutOfBoundsException {
        needExample(example);
        needKindOrNone(kind);
        int before = examples.taught[example];
        examples.taught[example] = kind;
        return before;
    }

    public int width(int feature, int w) throws IndexOutOfBoundsException, IllegalArgumentException {
        needFeature(feature);
        needWithin(w, 1, MOST_WIDTH);
        int before = examples.widths[feature];
        examples.widths[feature] = w;
        return before;
    }

    public int cell(int example, int feature) throws IndexOutOfBoundsException {
        needExample(example);
        needFeature(feature);
        return examples.cellOf(example, feature);
    }

    public int votes(int example, int kind) throws IndexOutOfBoundsException {
        needExample(example);
        needKind(kind);
        return teller.votesFor(example, kind);
    }

    public int tell(int example) throws IndexOutOfBoundsException {
        needExample(example);
        return teller.told(example);
    }

    public int bound(int v) throws IllegalArgumentException {
        needWithin(v, 0, MOST_BOUND);
        int before = teller.leastVotes;
        teller.leastVotes = v;
        return before;
    }

    public int prefer(int kind) throws IndexOutOfBoundsException {
        needKind(kind);
        return teller.bringToFront(kind);
    }

    public int wrong(int kind, int as, int part) throws IndexOutOfBoundsException {
        needKind(kind);
        needKindOrNone(as);
        needPart(part);
        return (int) partOf(teller.countTold(kind, as), examples.countTaught(kind), part);
    }

    public int right(int feature) throws IndexOutOfBoundsException {
        needFeature(feature);
        return teller.rightBy(feature);
    }

    public int best(int k) throws IndexOutOfBoundsException {
        needFeature(k);
        return teller.featureAt(k);
    }

    public int unknown() {
        return teller.countUnknown();
    }

    public int mixed(int kind, int part) throws IndexOutOfBoundsException {
        needKind(kind);
        needPart(part);
        int known = examples.countTaught(NONE) - teller.countTold(NONE, NONE);
        return (int) partOf(teller.countTold(NONE, kind), known, part);
    }

    public int groups(int least) throws IllegalArgumentException {
        needWithin(least, 0, features);
        return examples.countGroups(least);
    }

    public int nearest(int example, int k) throws IndexOutOfBoundsException, IllegalArgumentException {
        needExample(example);
        if (k < 0) {
            throw new IllegalArgumentException("a place below 0");
        }
        return examples.neighbour(example, k);
    }

    public int distance(int example, int other) throws IndexOutOfBoundsException {
        needExample(example);
        needExample(other);
        return examples.squares(example, other);
    }

    public int haul(int x, int y) throws IllegalArgumentException, IllegalStateException {
        needPlace(x, y);
        if (hauls.size >= MOST_HAULS) {
            throw new IllegalStateException("no room for another haul");
        }
        return hauls.add(x, y);
    }

    public int grams(int haul, int kind, int g) throws IndexOutOfBoundsException, IllegalArgumentException {
        needHaul(haul);
        needKind(kind);
        needWithin(g, 0, MOST_GRAMS);
        int before = hauls.catches[haul][kind];
        hauls.catches[haul][kind] = g;
        return before;
    }

    public long share(int x, int y, int kind, int part) throws IndexOutOfBoundsException, IllegalArgumentException {
        needKind(kind);
        needPart(part);
        needPlace(x, y);
        return hauls.sharePart(x, y, kind, part);
    }

    public int law(int kind, int length, int strength)
            throws IndexOutOfBoundsException, IllegalArgumentException, IllegalStateException {
        needKind(kind);
        needWithin(length, 1, MOST_LENGTH);
        needWithin(strength, 0, MOST_STRENGTH);
        Law law = laws[kind];
        if (length <= law.lastLength()) {
            throw new IllegalArgumentException("a length not above the last row's");
        }
        if (law.rows >= MOST_ROWS) {
            throw new IllegalStateException("no room for another row");
        }
        return law.add(length, strength);
    }

    public int strength(int kind, int length) throws IndexOutOfBoundsException {
        needKind(kind);
        return laws[kind].strengthAt(length);
    }

    public int length(int kind, int strength) throws IndexOutOfBoundsException {
        needKind(kind);
        return laws[kind].leastLength(strength);
    }

    public int count(int what) {
        switch (what) {
            case 0:
                return examples.size;
            case 1:
                return examples.size - examples.countTaught(NONE);
            case 2:
                return hauls.size;
            case 3:
                return kinds;
            case 4:
                return features;
            default:
                return NONE;
        }
    }

    private void needKind(int kind) {
        if (kind < 0 || kind >= kinds) {
            throw new IndexOutOfBoundsException("no such kind");
        }
    }

    private void needKindOrNone(int kind) {
        if (kind != NONE) {
            needKind(kind);
        }
    }

    private void needFeature(int feature) {
        if (feature < 0 || feature >= features) {
            throw new IndexOutOfBoundsException("no such feature");
        }
    }

    private void needExample(int example) {
        if (example < 0 || example >= examples.size) {
            throw new IndexOutOfBoundsException("no such example");
        }
    }

    private void needHaul(int haul) {
        if (haul < 0 || haul >= hauls.size) {
            throw new IndexOutOfBoundsException("no such haul");
        }
    }

    private static void needPart(int part) {
        if (part != ABOVE && part != BELOW) {
            throw new IndexOutOfBoundsException("no such part");
        }
    }

    private static void needWithin(int number, int least, int most) {
        if (number < least || number > most) {
            throw new IllegalArgumentException("a number outside its bounds");
        }
    }

    private static void needPlace(int x, int y) {
        needWithin(x, -MOST_PLACE, MOST_PLACE);
        needWithin(y, -MOST_PLACE, MOST_PLACE);
    }

    private static long partOf(long above, long below, int part) {
        long divisor = commonDivisor(above, below);
        if (below < 1 || divisor < 1) {
            return part == ABOVE ? 0 : 1;
        }
        return part == ABOVE ? above / divisor : below / divisor;
    }

    /** The counter only shows that it ends: a pair of longs needs fewer than 100 divisions. */
    private static long commonDivisor(long one, long other) {
        long divisor = one;
        long rest = other;
        for (int i = 0; i < MOST_DIVISIONS && rest != 0; i++) {
            long next = divisor % rest;
            divisor = rest;
            rest = next;
        }
        return divisor;
    }

    private static int square(int number) {
        return number * number;
    }

    /** What is known of the examples themselves, without any vote. */
    private static final class Examples {
        final int features;
        final int[][] numbers;
        final int[] taught;
        final int[] widths;
        /** Kept here so that no call has to make a row of its own. */
        final int[] groupOf;
        int size;

        Examples(int features) {
            this.features = features;
            this.numbers = new int[MOST_EXAMPLES][features];
            this.taught = new int[MOST_EXAMPLES];
            this.widths = new int[features];
            this.groupOf = new int[MOST_EXAMPLES];
            for (int feature = 0; feature < features; feature++) {
                this.widths[feature] = FIRST_WIDTH;
            }
        }

        int add(int kind) {
            taught[size] = kind;
            size++;
            return size - 1;
        }

        /** A width is 1 at least from the constructor on; the test shows it where it divides. */
        int cellOf(int example, int feature) {
            int width = widths[feature];
            return width < 1 ? 0 : numbers[example][feature] / width;
        }

        int sameCells(int one, int other, int from, int to) {
            int same = 0;
            for (int feature = from; feature < to; feature++) {
                if (cellOf(one, feature) == cellOf(other, feature)) {
                    same++;
                }
            }
            return same;
        }

        int countTaught(int kind) {
            int found = 0;
            for (int example = 0; example < size; example++) {
                if (taught[example] == kind) {
                    found++;
                }
            }
            return found;
        }

        /** 11 features of at most 2000 stay far within an int. */
        int squares(int one, int other) {
            int sum = 0;
            for (int feature = 0; feature < features; feature++) {
                sum += square(numbers[one][feature] - numbers[other][feature]);
            }
            return sum;
        }

        int neighbour(int example, int place) {
            for (int other = 0; other < size; other++) {
                if (isCandidate(other, example) && countNearer(other, example) == place) {
                    return other;
                }
            }
            return NONE;
        }

        private boolean isCandidate(int other, int example) {
            return other != example && taught[other] != NONE;
        }

        private int countNearer(int one, int example) {
            int limit = squares(one, example);
            int nearer = 0;
            for (int other = 0; other < size; other++) {
                if (isCandidate(other, example)) {
                    int far = squares(other, example);
                    if (far < limit || (far == limit && other < one)) {
                        nearer++;
                    }
                }
            }
            return nearer;
        }

        int countGroups(int least) {
            for (int example = 0; example < size; example++) {
                groupOf[example] = example;
            }
            int left = size;
            for (int one = 0; one < size; one++) {
                for (int other = one + 1; other < size; other++) {
                    if (groupOf[one] != groupOf[other] && sameCells(one, other, 0, features) >= least) {
                        joinGroups(groupOf[one], groupOf[other]);
                        left--;
                    }
                }
            }
            return left;
        }

        private void joinGroups(int kept, int given) {
            for (int example = 0; example < size; example++) {
                if (groupOf[example] == given) {
                    groupOf[example] = kept;
                }
            }
        }
    }

    /** Votes of the examples, and what is told by them. */
    private static final class Teller {
        final Examples examples;
        final int kinds;
        final int[] order;
        /** Rows for one call's use, kept so that no call has to make its own. */
        final int[] tally;
        final int[] rights;
        int leastVotes;

        Teller(Examples examples, int kinds) {
            this.examples = examples;
            this.kinds = kinds;
            this.order = new int[kinds];
            this.tally = new int[kinds];
            this.rights = new int[examples.features];
            this.leastVotes = FIRST_BOUND;
            for (int kind = 0; kind < kinds; kind++) {
                this.order[kind] = kind;
            }
        }

        int bringToFront(int kind) {
            int place = placeOf(kind);
            for (int behind = place; behind > 0; behind--) {
                order[behind] = order[behind - 1];
            }
            order[0] = kind;
            return place;
        }

        private int placeOf(int kind) {
            int place = 0;
            while (place < kinds - 1 && order[place] != kind) {
                place++;
            }
            return place;
        }

        int votesFor(int example, int kind) {
            takeVotes(example, 0, examples.features);
            return tally[kind];
        }

        int told(int example) {
            return toldBy(example, 0, examples.features);
        }

        private void takeVotes(int example, int from, int to) {
            for (int kind = 0; kind < kinds; kind++) {
                tally[kind] = 0;
            }
            for (int other = 0; other < examples.size; other++) {
                int kind = examples.taught[other];
                if (other != example && kind != NONE) {
                    tally[kind] += examples.sameCells(example, other, from, to);
                }
            }
        }

        private int toldBy(int example, int from, int to) {
            takeVotes(example, from, to);
            int leader = order[0];
            for (int place = 1; place < kinds; place++) {
                if (tally[order[place]] > tally[leader]) {
                    leader = order[place];
                }
            }
            return tally[leader] < leastVotes ? NONE : leader;
        }

        int countTold(int taughtAs, int toldAs) {
            int found = 0;
            for (int example = 0; example < examples.size; example++) {
                if (examples.taught[example] == taughtAs && told(example) == toldAs) {
                    found++;
                }
            }
            return found;
        }

        int countUnknown() {
            int found = 0;
            for (int example = 0; example < examples.size; example++) {
                if (told(example) == NONE) {
                    found++;
                }
            }
            return found;
        }

        int rightBy(int feature) {
            int found = 0;
            for (int example = 0; example < examples.size; example++) {
                int kind = examples.taught[example];
                if (kind != NONE && toldBy(example, feature, feature + 1) == kind) {
                    found++;
                }
            }
            return found;
        }

        int featureAt(int place) {
            for (int feature = 0; feature < examples.features; feature++) {
                rights[feature] = rightBy(feature);
            }
            for (int feature = 0; feature < examples.features; feature++) {
                if (countBefore(feature) == place) {
                    return feature;
                }
            }
            return NONE;
        }

        private int countBefore(int feature) {
            int before = 0;
            for (int other = 0; other < examples.features; other++) {
                boolean tieBefore = rights[other] == rights[feature] && other < feature;
                if (rights[other] > rights[feature] || tieBefore) {
                    before++;
                }
            }
            return before;
        }
    }

    /** Hauls at their places, with what was caught in them. */
    private static final class Hauls {
        final int kinds;
        final int[] xs;
        final int[] ys;
        final int[][] catches;
        int size;

        Hauls(int kinds) {
            this.kinds = kinds;
            this.xs = new int[MOST_HAULS];
            this.ys = new int[MOST_HAULS];
            this.catches = new int[MOST_HAULS][kinds];
        }

        int add(int x, int y) {
            xs[size] = x;
            ys[size] = y;
            size++;
            return size - 1;
        }

        long sharePart(int x, int y, int kind, int part) {
            int first = nearestFilled(x, y, NONE);
            if (first == NONE) {
                return partOf(0, 0, part);
            }
            int second = nearestFilled(x, y, first);
            if (second == NONE) {
                return partOf(catches[first][kind], allGrams(first), part);
            }
            // Both weights are 1 by something: times both of these, each haul bears the other's.
            long firstBears = squareTo(second, x, y) + 1;
            long secondBears = squareTo(first, x, y) + 1;
            long firstAll = allGrams(first);
            long secondAll = allGrams(second);
            long above = catches[first][kind] * secondAll * firstBears
                    + catches[second][kind] * firstAll * secondBears;
            return partOf(above, firstAll * secondAll * (firstBears + secondBears), part);
        }

        private int nearestFilled(int x, int y, int leftOut) {
            int found = NONE;
            int least = 0;
            for (int haul = 0; haul < size; haul++) {
                if (haul != leftOut && allGrams(haul) > 0) {
                    int far = squareTo(haul, x, y);
                    if (found == NONE || far < least) {
                        found = haul;
                        least = far;
                    }
                }
            }
            return found;
        }

        private int squareTo(int haul, int x, int y) {
            return square(xs[haul] - x) + square(ys[haul] - y);
        }

        private int allGrams(int haul) {
            int sum = 0;
            for (int kind = 0; kind < kinds; kind++) {
                sum += catches[haul][kind];
            }
            return sum;
        }
    }

    /** One kind's rows; their lengths rise, so no difference of two of them is 0. */
    private static final class Law {
        final int[] lengths;
        final int[] strengths;
        int rows;

        Law() {
            this.lengths = new int[MOST_ROWS];
            this.strengths = new int[MOST_ROWS];
        }

        int lastLength() {
            return rows < 1 ? 0 : lengths[rows - 1];
        }

        int add(int length, int strength) {
            lengths[rows] = length;
            strengths[rows] = strength;
            rows++;
            return rows;
        }

        int strengthAt(int length) {
            for (int row = 0; row < rows; row++) {
                if (length == lengths[row]) {
                    return strengths[row];
                }
                if (length < lengths[row]) {
                    return row < 1 ? NONE : strengthBefore(row, length);
                }
            }
            return NONE;
        }

        private int strengthBefore(int row, int length) {
            int rise = strengths[row] - strengths[row - 1];
            int span = lengths[row] - lengths[row - 1];
            int behind = length - lengths[row - 1];
            return span < 1 ? strengths[row] : strengths[row - 1] + Math.floorDiv(rise * behind, span);
        }

        /** Between two rows the strength stays between theirs, so the first row that has enough tells where to look. */
        int leastLength(int strength) {
            for (int row = 0; row < rows; row++) {
                if (strengths[row] >= strength) {
                    return row < 1 ? lengths[row] : leastLengthBefore(row, strength);
                }
            }
            return NONE;
        }

        /** The row before has less than is asked and this one has not: the rise, the divisor, is above 0. */
        private int leastLengthBefore(int row, int strength) {
            int rise = strengths[row] - strengths[row - 1];
            int span = lengths[row] - lengths[row - 1];
            int wanted = (strength - strengths[row - 1]) * span;
            return rise < 1 ? lengths[row] : lengths[row - 1] + (wanted + rise - 1) / rise;
        }
    }
}
