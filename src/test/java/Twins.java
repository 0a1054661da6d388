import java.util.ArrayList;
import java.util.List;
import java.util.function.Supplier;
import java.util.function.ToLongFunction;

/**
 * "They change nothing (but WHERE)": of two maps that were set up alike one alone gets the call, and
 * then both must tell the same, whatever they are asked. Each question takes maps of its own, so that
 * no map gets more than 512 calls.
 */
final class Twins {
    private interface Question {
        void ask(ParcelMap map, List<Long> answers);
    }

    private static final long[] POINTS = {Check.bits(0), Check.bits(2), Check.bits(4), Check.bits(7)};
    private final Check check;

    Twins(Check check) {
        this.check = check;
    }

    /** A refusal that is no fault of a ring: it leaves WHERE too. */
    void refused(String name, Supplier<ParcelMap> scene, ToLongFunction<ParcelMap> call, long due) {
        fault(name, scene, call, due, scene.get().where());
    }

    /** A refusal, and what WHERE is then. */
    void fault(String name, Supplier<ParcelMap> scene, ToLongFunction<ParcelMap> call, long due, int where) {
        ParcelMap map = scene.get();
        check.due(name, call.applyAsLong(map), due);
        check.due(name + ": where", map.where(), where);
        check.due(name + ", again", call.applyAsLong(map), due);
        same(name + ": what is told", scene, call, Twins::whatIsTold);
        same(name + ": corners", scene, call, Twins::corners);
        same(name + ": parcels", scene, call, Twins::parcels);
        same(name + ": what is drawn", scene, call, Twins::drawing);
        same(name + ": undo", scene, call, Twins::undoing);
        same(name + ": what is found", scene, call, Twins::finding);
        same(name + ": what is made next", scene, call, Twins::making);
    }

    private void same(String name, Supplier<ParcelMap> scene, ToLongFunction<ParcelMap> call, Question question) {
        ParcelMap touched = scene.get();
        call.applyAsLong(touched);
        List<Long> after = new ArrayList<>();
        question.ask(touched, after);
        List<Long> before = new ArrayList<>();
        question.ask(scene.get(), before);
        check.holds(name + " is " + after + ", was " + before, after.equals(before));
    }

    private static void add(List<Long> answers, long... more) {
        for (long answer : more) {
            answers.add(answer);
        }
    }

    private static void whatIsTold(ParcelMap map, List<Long> answers) {
        for (int what = 0; what < 8; what++) {
            add(answers, map.count(what));
        }
        add(answers, map.sure(), map.edge(), map.digest());
        for (int k = 0; k < 12; k++) {
            add(answers, map.hullAt(k));
        }
    }

    /** The first and the last ones. */
    private static void corners(ParcelMap map, List<Long> answers) {
        int made = map.count(0);
        for (int c = 0; c <= made; c++) {
            if (c < 15 || c > made - 15) {
                add(answers, map.at(c, 0), map.at(c, 1));
            }
        }
    }

    /** The first and the last ones. */
    private static void parcels(ParcelMap map, List<Long> answers) {
        int made = map.count(2);
        for (int p = 0; p <= made; p++) {
            if (p < 5 || p > made - 4) {
                for (int what = 0; what < 15; what++) {
                    add(answers, map.told(p, what));
                }
            }
        }
    }

    /** What is drawn shows only when it is closed, as it is or with more corners. */
    private static void drawing(ParcelMap map, List<Long> answers) {
        add(answers, map.count(3), map.close(3, 5), map.digest());
        for (int c = 0; c < 4; c++) {
            add(answers, map.add(c), map.close(3, 6), map.where(), map.digest());
        }
        add(answers, map.draw());
    }

    private static void undoing(ParcelMap map, List<Long> answers) {
        add(answers, map.undo(), map.digest(), map.count(1), map.count(2), map.count(3), map.undo());
    }

    private static void finding(ParcelMap map, List<Long> answers) {
        for (long x : POINTS) {
            add(answers, map.nearest(x, POINTS[1]), map.locate(0, x, POINTS[1]), map.edge());
        }
        for (int layer = 0; layer < 4; layer++) {
            add(answers, map.hull(layer), map.hullAt(0), map.walk(layer, 0, 2, 0));
        }
        for (int p = 0; p < 5; p++) {
            add(answers, map.twice(p), map.compare(p, 0), map.quota(p, 100), map.border(p, 0),
                    map.neighbour(p, 0));
        }
    }

    private static void making(ParcelMap map, List<Long> answers) {
        add(answers, Check.corner(map, 101, 103), Check.close(map, 3, 5, 50, 50, 51, 50, 51, 51));
        add(answers, map.count(0), map.count(2), map.digest());
    }
}
