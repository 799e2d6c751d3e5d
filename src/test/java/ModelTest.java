/** Long runs of calls, drawn by a fixed row of numbers, answered as by the plain model and refused as the document says. */
public final class ModelTest {
    private static final Checks CHECKS = new Checks();
    private static final int RUNS = 400;
    private static final int CALLS = 512;

    private final KindTables x;
    private final PlainModel model;
    private long state;
    /** Wide runs draw from all numbers; narrow ones from few, so that cells, distances and places often are the same. */
    private final boolean wide;

    private ModelTest(int seed) {
        state = seed * 7919L + 17;
        wide = seed % 2 == 0;
        int kinds = draw(1, 6);
        int frequencies = draw(1, 8);
        x = new KindTables(kinds, frequencies);
        model = new PlainModel(kinds, frequencies);
    }

    public static void main(String[] args) {
        for (int seed = 0; seed < RUNS; seed++) {
            ModelTest run = new ModelTest(seed);
            for (int call = 0; call < CALLS; call++) {
                run.step(run.draw(0, 31));
            }
        }
        CHECKS.end();
    }

    private int draw(int least, int most) {
        state = state * 6364136223846793005L + 1442695040888963407L;
        return least + (int) Math.floorMod(state >>> 33, (long) most - least + 1);
    }

    /** Mostly one that is there, now and then one just outside or far outside. */
    private int drawIndex(int least, int size) {
        int kind = draw(0, 19);
        if (kind == 0) {
            return draw(0, 1) == 0 ? least - 1 : size;
        }
        if (kind == 1) {
            return draw(0, 1) == 0 ? Integer.MIN_VALUE : Integer.MAX_VALUE;
        }
        return size <= least ? least : draw(least, size - 1);
    }

    private int drawNumber(int least, int most) {
        int kind = draw(0, 19);
        if (kind == 0) {
            return draw(0, 1) == 0 ? least : most;
        }
        if (kind == 1) {
            return draw(0, 1) == 0 ? least - 1 : most + 1;
        }
        if (kind == 2) {
            return draw(0, 1) == 0 ? Integer.MIN_VALUE : Integer.MAX_VALUE;
        }
        return wide ? draw(least, most) : draw(Math.max(least, -2), Math.min(most, 3)) * (least < 0 || most < 10 ? 1 : 60);
    }

    private static boolean outside(int number, int least, int most) {
        return number < least || number > most;
    }

    private boolean noKind(int kind) {
        return outside(kind, 0, model.kinds - 1);
    }

    private boolean noFeature(int feature) {
        return outside(feature, 0, model.features - 1);
    }

    private boolean noExample(int example) {
        return outside(example, 0, model.numbers.size() - 1);
    }

    /** Of several exceptions the one that is named first; null for none. */
    private static Class<?> first(boolean index, boolean argument, boolean state) {
        return index ? Checks.INDEX : argument ? Checks.ARGUMENT : state ? Checks.STATE : null;
    }

    private static void compare(String call, Class<?> refusal, Checks.Call want, Checks.Call got) {
        if (refusal != null) {
            CHECKS.refused(call, refusal, got);
            return;
        }
        long due = want.answer();
        long answer;
        try {
            answer = got.answer();
        } catch (RuntimeException e) {
            CHECKS.due(call + " threw " + e, true, false);
            return;
        }
        CHECKS.due(call, due, answer);
    }

    private static long swap(int[] row, int place, int with) {
        int before = row[place];
        row[place] = with;
        return before;
    }

    private void step(int which) {
        if (which < 16) {
            stepOfState(which);
        } else {
            stepOfQuestions(which - 16);
        }
    }

    private void stepOfState(int which) {
        int example = drawIndex(0, model.numbers.size());
        int feature = drawIndex(0, model.features);
        int kind = drawIndex(0, model.kinds);
        int kindOrNone = drawIndex(-1, model.kinds);
        boolean noKindOrNone = outside(kindOrNone, -1, model.kinds - 1);
        switch (which) {
            case 0, 1 -> compare("example(" + kindOrNone + ")",
                    first(noKindOrNone, false, model.numbers.size() == 24),
                    () -> model.example(kindOrNone), () -> x.example(kindOrNone));
            case 2, 3, 4, 5, 6 -> stepOfValue(example, feature);
            case 7 -> compare("teach(" + example + ", " + kindOrNone + ")",
                    first(noExample(example) || noKindOrNone, false, false),
                    () -> model.taught.set(example, kindOrNone), () -> x.teach(example, kindOrNone));
            case 8 -> {
                int w = drawNumber(1, 1000);
                compare("width(" + feature + ", " + w + ")", first(noFeature(feature), outside(w, 1, 1000), false),
                        () -> swap(model.widths, feature, w), () -> x.width(feature, w));
            }
            case 9 -> stepOfBound();
            case 10 -> compare("prefer(" + kind + ")", first(noKind(kind), false, false),
                    () -> model.prefer(kind), () -> x.prefer(kind));
            case 11 -> {
                int px = drawNumber(-100, 100);
                int py = drawNumber(-100, 100);
                compare("haul(" + px + ", " + py + ")",
                        first(false, outside(px, -100, 100) || outside(py, -100, 100), model.places.size() == 12),
                        () -> model.haul(px, py), () -> x.haul(px, py));
            }
            case 12, 13, 14 -> stepOfGrams(kind);
            default -> stepOfLaw(kind);
        }
    }

    private void stepOfValue(int example, int feature) {
        int v = drawNumber(0, 2000);
        compare("value(" + example + ", " + feature + ", " + v + ")",
                first(noExample(example) || noFeature(feature), outside(v, 0, 2000), false),
                () -> swap(model.numbers.get(example), feature, v) != v ? 1 : 0,
                () -> x.value(example, feature, v) ? 1 : 0);
    }

    private void stepOfBound() {
        int v = draw(0, 3) == 0 ? drawNumber(0, 1000) : draw(0, 12);
        compare("bound(" + v + ")", first(false, outside(v, 0, 1000), false), () -> {
            int before = model.bound;
            model.bound = v;
            return before;
        }, () -> x.bound(v));
    }

    private void stepOfGrams(int kind) {
        int haul = drawIndex(0, model.places.size());
        int g = drawNumber(0, 1000);
        compare("grams(" + haul + ", " + kind + ", " + g + ")",
                first(outside(haul, 0, model.places.size() - 1) || noKind(kind), outside(g, 0, 1000), false),
                () -> swap(model.grams.get(haul), kind, g), () -> x.grams(haul, kind, g));
    }

    private void stepOfLaw(int kind) {
        int last = 0;
        int rows = 0;
        if (!noKind(kind)) {
            rows = model.laws.get(kind).size();
            last = rows == 0 ? 0 : model.laws.get(kind).get(rows - 1)[0];
        }
        int length = draw(0, 3) == 0 ? drawNumber(1, 1000) : last + draw(0, 200);
        int strength = drawNumber(0, 2000);
        boolean wrong = outside(length, 1, 1000) || length <= last || outside(strength, 0, 2000);
        compare("law(" + kind + ", " + length + ", " + strength + ")", first(noKind(kind), wrong, rows == 6), () -> {
            model.laws.get(kind).add(new int[] {length, strength});
            return model.laws.get(kind).size();
        }, () -> x.law(kind, length, strength));
    }

    private void stepOfQuestions(int which) {
        int example = drawIndex(0, model.numbers.size());
        int other = drawIndex(0, model.numbers.size());
        int feature = drawIndex(0, model.features);
        int kind = drawIndex(0, model.kinds);
        int as = drawIndex(-1, model.kinds);
        int part = drawIndex(0, 2);
        boolean noPart = outside(part, 0, 1);
        switch (which) {
            case 0 -> compare("cell(" + example + ", " + feature + ")",
                    first(noExample(example) || noFeature(feature), false, false),
                    () -> model.cell(example, feature), () -> x.cell(example, feature));
            case 1 -> compare("votes(" + example + ", " + kind + ")",
                    first(noExample(example) || noKind(kind), false, false),
                    () -> model.votes(example, kind), () -> x.votes(example, kind));
            case 2 -> compare("tell(" + example + ")", first(noExample(example), false, false),
                    () -> model.tell(example), () -> x.tell(example));
            case 3 -> compare("wrong(" + kind + ", " + as + ", " + part + ")",
                    first(noKind(kind) || outside(as, -1, model.kinds - 1) || noPart, false, false),
                    () -> model.wrong(kind, as, part), () -> x.wrong(kind, as, part));
            case 4 -> compare("right(" + feature + ")", first(noFeature(feature), false, false),
                    () -> model.right(feature), () -> x.right(feature));
            case 5 -> compare("best(" + feature + ")", first(noFeature(feature), false, false),
                    () -> model.best(feature), () -> x.best(feature));
            case 6 -> compare("unknown()", null, model::unknown, x::unknown);
            case 7 -> compare("mixed(" + kind + ", " + part + ")", first(noKind(kind) || noPart, false, false),
                    () -> model.mixed(kind, part), () -> x.mixed(kind, part));
            case 8 -> compare("distance(" + example + ", " + other + ")",
                    first(noExample(example) || noExample(other), false, false),
                    () -> model.distance(example, other), () -> x.distance(example, other));
            default -> stepOfMoreQuestions(which, example, kind, part);
        }
    }

    private void stepOfMoreQuestions(int which, int example, int kind, int part) {
        int length = draw(0, 1) == 0 ? drawNumber(1, 1000) : draw(-1, 300);
        int strength = draw(0, 1) == 0 ? drawNumber(0, 2000) : draw(-1, 300);
        switch (which) {
            case 9 -> {
                int least = drawIndex(0, model.features + 1);
                compare("groups(" + least + ")", first(false, outside(least, 0, model.features), false),
                        () -> model.groups(least), () -> x.groups(least));
            }
            case 10 -> {
                int k = drawIndex(0, model.numbers.size());
                compare("nearest(" + example + ", " + k + ")", first(noExample(example), k < 0, false),
                        () -> model.nearest(example, k), () -> x.nearest(example, k));
            }
            case 11, 12 -> stepOfShare(kind, part);
            case 13 -> compare("strength(" + kind + ", " + length + ")", first(noKind(kind), false, false),
                    () -> model.strength(kind, length), () -> x.strength(kind, length));
            case 14 -> compare("length(" + kind + ", " + strength + ")", first(noKind(kind), false, false),
                    () -> model.length(kind, strength), () -> x.length(kind, strength));
            default -> stepOfCount();
        }
    }

    private void stepOfShare(int kind, int part) {
        int px = drawNumber(-100, 100);
        int py = drawNumber(-100, 100);
        compare("share(" + px + ", " + py + ", " + kind + ", " + part + ")",
                first(noKind(kind) || outside(part, 0, 1), outside(px, -100, 100) || outside(py, -100, 100), false),
                () -> model.share(px, py, kind, part), () -> x.share(px, py, kind, part));
    }

    private void stepOfCount() {
        int taught = 0;
        for (int kind : model.taught) {
            taught += kind == -1 ? 0 : 1;
        }
        CHECKS.due("count(0)", model.numbers.size(), x.count(0));
        CHECKS.due("count(1)", taught, x.count(1));
        CHECKS.due("count(2)", model.places.size(), x.count(2));
        CHECKS.due("count(3)", model.kinds, x.count(3));
        CHECKS.due("count(4)", model.features, x.count(4));
    }
}
