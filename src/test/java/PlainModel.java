import java.math.BigInteger;
import java.util.ArrayList;
import java.util.Comparator;
import java.util.List;

/** The document's words written a second time, in another way and without care for room; it is asked with right arguments alone. */
final class PlainModel {
    final int kinds;
    final int features;
    final List<int[]> numbers = new ArrayList<>();
    final List<Integer> taught = new ArrayList<>();
    final List<Integer> order = new ArrayList<>();
    final List<int[]> places = new ArrayList<>();
    final List<int[]> grams = new ArrayList<>();
    final List<List<int[]>> laws = new ArrayList<>();
    final int[] widths;
    int bound = 1;

    PlainModel(int kinds, int frequencies) {
        this.kinds = kinds;
        this.features = frequencies + 3;
        this.widths = new int[features];
        java.util.Arrays.fill(widths, 100);
        for (int kind = 0; kind < kinds; kind++) {
            order.add(kind);
            laws.add(new ArrayList<>());
        }
    }

    int example(int kind) {
        numbers.add(new int[features]);
        taught.add(kind);
        return numbers.size() - 1;
    }

    int haul(int x, int y) {
        places.add(new int[] {x, y});
        grams.add(new int[kinds]);
        return places.size() - 1;
    }

    int prefer(int kind) {
        int place = order.indexOf(kind);
        order.remove(place);
        order.add(0, kind);
        return place;
    }

    int cell(int example, int feature) {
        return numbers.get(example)[feature] / widths[feature];
    }

    private boolean[] all() {
        boolean[] used = new boolean[features];
        java.util.Arrays.fill(used, true);
        return used;
    }

    private boolean[] alone(int feature) {
        boolean[] used = new boolean[features];
        used[feature] = true;
        return used;
    }

    private int votes(int example, int kind, boolean[] used) {
        int votes = 0;
        for (int feature = 0; feature < features; feature++) {
            for (int other = 0; other < numbers.size(); other++) {
                boolean votesFor = other != example && taught.get(other) == kind;
                if (used[feature] && votesFor && cell(other, feature) == cell(example, feature)) {
                    votes++;
                }
            }
        }
        return votes;
    }

    int votes(int example, int kind) {
        return votes(example, kind, all());
    }

    private int tell(int example, boolean[] used) {
        int most = 0;
        for (int kind = 0; kind < kinds; kind++) {
            most = Math.max(most, votes(example, kind, used));
        }
        if (most < bound) {
            return -1;
        }
        for (int kind : order) {
            if (votes(example, kind, used) == most) {
                return kind;
            }
        }
        throw new AssertionError();
    }

    int tell(int example) {
        return tell(example, all());
    }

    static long part(BigInteger above, BigInteger below, int part) {
        if (below.signum() == 0) {
            return part;
        }
        BigInteger divisor = above.gcd(below);
        return (part == 0 ? above : below).divide(divisor).longValueExact();
    }

    private static long part(long above, long below, int part) {
        return part(BigInteger.valueOf(above), BigInteger.valueOf(below), part);
    }

    long wrong(int kind, int as, int part) {
        int above = 0;
        int below = 0;
        for (int example = 0; example < numbers.size(); example++) {
            if (taught.get(example) == kind) {
                below++;
                above += tell(example) == as ? 1 : 0;
            }
        }
        return part(above, below, part);
    }

    int right(int feature) {
        int right = 0;
        for (int example = 0; example < numbers.size(); example++) {
            if (taught.get(example) >= 0 && tell(example, alone(feature)) == taught.get(example)) {
                right++;
            }
        }
        return right;
    }

    int best(int k) {
        List<Integer> sorted = new ArrayList<>();
        for (int feature = 0; feature < features; feature++) {
            sorted.add(feature);
        }
        sorted.sort(Comparator.comparingInt((Integer feature) -> -right(feature)));
        return sorted.get(k);
    }

    int unknown() {
        int unknown = 0;
        for (int example = 0; example < numbers.size(); example++) {
            unknown += tell(example) == -1 ? 1 : 0;
        }
        return unknown;
    }

    long mixed(int kind, int part) {
        int above = 0;
        int below = 0;
        for (int example = 0; example < numbers.size(); example++) {
            if (taught.get(example) == -1) {
                above += tell(example) == kind ? 1 : 0;
                below += tell(example) != -1 ? 1 : 0;
            }
        }
        return part(above, below, part);
    }

    int groups(int least) {
        boolean[] seen = new boolean[numbers.size()];
        int groups = 0;
        for (int example = 0; example < seen.length; example++) {
            if (!seen[example]) {
                groups++;
                walk(example, least, seen);
            }
        }
        return groups;
    }

    private void walk(int example, int least, boolean[] seen) {
        seen[example] = true;
        for (int other = 0; other < seen.length; other++) {
            int same = 0;
            for (int feature = 0; feature < features; feature++) {
                same += cell(example, feature) == cell(other, feature) ? 1 : 0;
            }
            if (!seen[other] && same >= least) {
                walk(other, least, seen);
            }
        }
    }

    int distance(int example, int other) {
        int sum = 0;
        for (int feature = 0; feature < features; feature++) {
            int difference = numbers.get(example)[feature] - numbers.get(other)[feature];
            sum += difference * difference;
        }
        return sum;
    }

    int nearest(int example, int k) {
        List<Integer> sorted = new ArrayList<>();
        for (int other = 0; other < numbers.size(); other++) {
            if (other != example && taught.get(other) != -1) {
                sorted.add(other);
            }
        }
        sorted.sort(Comparator.comparingInt((Integer other) -> distance(example, other)));
        return k < sorted.size() ? sorted.get(k) : -1;
    }

    private int all(int haul) {
        int sum = 0;
        for (int g : grams.get(haul)) {
            sum += g;
        }
        return sum;
    }

    private int far(int haul, int x, int y) {
        int dx = places.get(haul)[0] - x;
        int dy = places.get(haul)[1] - y;
        return dx * dx + dy * dy;
    }

    long share(int x, int y, int kind, int part) {
        List<Integer> sorted = new ArrayList<>();
        for (int haul = 0; haul < places.size(); haul++) {
            if (all(haul) > 0) {
                sorted.add(haul);
            }
        }
        sorted.sort(Comparator.comparingInt((Integer haul) -> far(haul, x, y)));
        // The sum of weighted shares, and the sum of weights, both as fractions that are added up one by one.
        BigInteger above = BigInteger.ZERO;
        BigInteger below = BigInteger.ONE;
        BigInteger weightAbove = BigInteger.ZERO;
        BigInteger weightBelow = BigInteger.ONE;
        for (int i = 0; i < Math.min(2, sorted.size()); i++) {
            int haul = sorted.get(i);
            BigInteger weight = BigInteger.valueOf(far(haul, x, y) + 1);
            BigInteger whole = BigInteger.valueOf(all(haul)).multiply(weight);
            above = above.multiply(whole).add(BigInteger.valueOf(grams.get(haul)[kind]).multiply(below));
            below = below.multiply(whole);
            weightAbove = weightAbove.multiply(weight).add(weightBelow);
            weightBelow = weightBelow.multiply(weight);
        }
        return part(above.multiply(weightBelow), below.multiply(weightAbove), part);
    }

    int strength(int kind, int length) {
        List<int[]> rows = laws.get(kind);
        for (int[] row : rows) {
            if (row[0] == length) {
                return row[1];
            }
        }
        for (int i = 1; i < rows.size(); i++) {
            int[] first = rows.get(i - 1);
            int[] second = rows.get(i);
            if (first[0] < length && length < second[0]) {
                int times = (second[1] - first[1]) * (length - first[0]);
                return first[1] + Math.floorDiv(times, second[0] - first[0]);
            }
        }
        return -1;
    }

    int length(int kind, int strength) {
        for (int length = 1; length <= 1000; length++) {
            int there = strength(kind, length);
            if (there != -1 && there >= strength) {
                return length;
            }
        }
        return -1;
    }
}
