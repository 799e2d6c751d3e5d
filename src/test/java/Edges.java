import java.util.HashMap;
import java.util.List;
import java.util.Map;

/** Calls tried at the ends of what a number may be, and outside of them, in a scene. */
final class Edges {
    interface Call {
        long answer(KindTables x);
    }

    interface CallWith {
        long answer(KindTables x, int number);
    }

    private final Checks checks;
    private final Map<Scene, List<Long>> untouched = new HashMap<>();

    Edges(Checks checks) {
        this.checks = checks;
    }

    /** The very exception is thrown, and then everything is as if there had been no call. */
    void refused(Scene scene, String sentence, Class<?> want, Call call) {
        String text = sentence + " (" + scene.name + ")";
        KindTables x = scene.make();
        checks.refused(text, want, () -> call.answer(x));
        List<Long> due = untouched.computeIfAbsent(scene, one -> Look.at(one, y -> { }));
        checks.due(text + " changes nothing", true, due.equals(Look.at(scene, y -> swallow(call, y))));
    }

    private static void swallow(Call call, KindTables x) {
        try {
            call.answer(x);
        } catch (RuntimeException e) {
            // What it throws is looked at elsewhere; here it matters what it leaves behind.
        }
    }

    void taken(Scene scene, String sentence, Call call) {
        try {
            call.answer(scene.make());
            checks.due(sentence, true, true);
        } catch (RuntimeException e) {
            checks.due(sentence + " (" + scene.name + ") threw " + e, true, false);
        }
    }

    /** A number is least .. most: both ends are taken, and what is just or far outside is refused. */
    void range(Scene scene, String sentence, Class<?> want, int[] ends, CallWith call) {
        int least = ends[0];
        int most = ends[1];
        for (int number : new int[] {Integer.MIN_VALUE, least - 1, most + 1, Integer.MAX_VALUE}) {
            refused(scene, sentence + ": " + number, want, x -> call.answer(x, number));
        }
        if (least <= most) {
            taken(scene, sentence + ": " + least, x -> call.answer(x, least));
            taken(scene, sentence + ": " + most, x -> call.answer(x, most));
        }
    }
}
