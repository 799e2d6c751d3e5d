import java.util.ArrayList;
import java.util.List;

/**
 * All that can be seen of a scene. Each part looks at an object of its own, since some looks change what they see,
 * and since an object promises 512 calls: making the fullest scene takes 148, and the longest part 300.
 */
final class Look {
    interface Before {
        void call(KindTables x);
    }

    private interface Part {
        void see(KindTables x);
    }

    /** A refusal as an answer; no call of the class answers this. */
    private static final long REFUSED = -7;

    private final Scene scene;
    private final List<Long> seen = new ArrayList<>();

    private Look(Scene scene) {
        this.scene = scene;
    }

    static List<Long> at(Scene scene, Before before) {
        Look look = new Look(scene);
        Part[] parts = {look::seeCells, look::seeNumbers, look::seeVotes, look::seeTold, look::seeNearness,
            look::seeShares, look::seeLaws, look::seeWhatWas, look::seeRoom};
        for (Part part : parts) {
            KindTables x = scene.make();
            before.call(x);
            part.see(x);
        }
        return look.seen;
    }

    private void see(Checks.Call call) {
        long answer;
        try {
            answer = call.answer();
        } catch (IllegalStateException e) {
            answer = REFUSED;
        }
        seen.add(answer);
    }

    private void seeCells(KindTables x) {
        for (int what = 0; what < 5; what++) {
            int of = what;
            see(() -> x.count(of));
        }
        for (int example = 0; example < scene.examples; example++) {
            for (int feature = 0; feature < scene.features; feature++) {
                seen.add((long) x.cell(example, feature));
            }
        }
    }

    /** By a width of 1 a cell is the number itself. */
    private void seeNumbers(KindTables x) {
        for (int feature = 0; feature < scene.features; feature++) {
            seen.add((long) x.width(feature, 1));
        }
        for (int example = 0; example < scene.examples; example++) {
            for (int feature = 0; feature < scene.features; feature++) {
                seen.add((long) x.cell(example, feature));
            }
        }
    }

    private void seeVotes(KindTables x) {
        for (int example = 0; example < scene.examples; example++) {
            for (int kind = 0; kind < scene.kinds; kind++) {
                seen.add((long) x.votes(example, kind));
            }
        }
    }

    private void seeTold(KindTables x) {
        for (int example = 0; example < scene.examples; example++) {
            seen.add((long) x.tell(example));
        }
        for (int kind = 0; kind < scene.kinds; kind++) {
            for (int part = 0; part < 2; part++) {
                seen.add((long) x.mixed(kind, part));
                for (int as = -1; as < scene.kinds; as++) {
                    seen.add((long) x.wrong(kind, as, part));
                }
            }
        }
        for (int feature = 0; feature < scene.features; feature++) {
            seen.add((long) x.right(feature));
            seen.add((long) x.best(feature));
        }
        seen.add((long) x.unknown());
    }

    private void seeNearness(KindTables x) {
        for (int least = 0; least <= scene.features; least++) {
            seen.add((long) x.groups(least));
        }
        for (int example = 0; example < scene.examples; example++) {
            seen.add((long) x.distance(example, 0));
            for (int k = 0; k < 5; k++) {
                seen.add((long) x.nearest(example, k));
            }
        }
    }

    private void seeShares(KindTables x) {
        for (int place = -100; place <= 100; place += 25) {
            for (int kind = 0; kind < scene.kinds; kind++) {
                seen.add(x.share(place, -place, kind, 0));
                seen.add(x.share(place, -place, kind, 1));
            }
        }
    }

    private void seeLaws(KindTables x) {
        for (int kind = 0; kind < scene.kinds; kind++) {
            for (int number = 0; number < 50; number += 2) {
                seen.add((long) x.strength(kind, number));
                seen.add((long) x.length(kind, 2 * number));
            }
        }
    }

    private void seeWhatWas(KindTables x) {
        seen.add((long) x.bound(0));
        for (int kind = scene.kinds - 1; kind >= 0; kind--) {
            seen.add((long) x.prefer(kind));
        }
        for (int example = 0; example < scene.examples; example++) {
            seen.add((long) x.teach(example, -1));
        }
        for (int haul = 0; haul < scene.hauls; haul++) {
            for (int kind = 0; kind < scene.kinds; kind++) {
                seen.add((long) x.grams(haul, kind, 0));
            }
        }
    }

    /** What is new has its first numbers, too. */
    private void seeRoom(KindTables x) {
        see(() -> x.example(0));
        see(() -> x.cell(x.count(0) - 1, 1));
        see(() -> x.haul(0, 0));
        see(() -> x.grams(x.count(2) - 1, 0, 1));
        for (int kind = 0; kind < scene.kinds; kind++) {
            int of = kind;
            see(() -> x.law(of, 1000, 2000));
            see(() -> x.strength(of, 1000));
        }
    }
}
