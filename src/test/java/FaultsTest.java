import java.util.function.Supplier;
import java.util.function.ToLongFunction;

/**
 * "FAULTS of a RING": FEW, TWICE, CROSSED, OVER, "the first one in this order counts", and what WHERE
 * is of each; for close(), join() and move(). Each one changes nothing but WHERE.
 */
final class FaultsTest {
    private static final Check CHECK = new Check();
    private static final Twins TWINS = new Twins(CHECK);
    /** A square with a slot from above: eight corners. */
    private static final double[] SLOT = {0, 0, 6, 0, 6, 6, 4, 6, 4, 2, 2, 2, 2, 6, 0, 6};

    public static void main(String[] args) {
        few();
        twice();
        twiceOfTheFirstTwoLikeOnes();
        crossedThatFollow();
        crossedThatDoNotFollow();
        crossedTheLeastSuchNumber();
        crossedAsDrawn();
        over();
        overNoneThatIsGone();
        overOfAnotherLayer();
        theFirstInThisOrderCounts();
        whereOfTheLatestFault();
        joinFew();
        joinTwiceAndCrossed();
        joinOrder();
        joinOutsideAheadOfFaults();
        joinApartAheadOfFaults();
        moveFaults();
        moveOrder();
        moveOverItself();
        CHECK.finish();
    }

    private static Supplier<ParcelMap> drawn(Supplier<ParcelMap> scene, double... xy) {
        return () -> {
            ParcelMap map = scene.get();
            Check.draw(map, xy);
            return map;
        };
    }

    private static void closeDue(String name, Supplier<ParcelMap> scene, int due, int where, double... xy) {
        TWINS.fault("close: " + name, drawn(scene, xy), m -> m.close(0, 5), due, where);
    }

    /** The first n corners of a ring that is sound, all to the left. */
    private static double[] bow(int n) {
        double[] xy = new double[2 * n];
        for (int i = 0; i < n; i++) {
            xy[2 * i] = i;
            xy[2 * i + 1] = i * i;
        }
        return xy;
    }

    /** "FEW: it has fewer than 3 CORNERS, or more than 12"; "of FEW how many there are". */
    private static void few() {
        for (int n = 0; n <= 20; n++) {
            if (n < 3 || n > 12) {
                closeDue(n + " corners", ParcelMap::new, ParcelMap.FEW, n, bow(n));
            } else {
                ParcelMap map = new ParcelMap();
                CHECK.due("close of " + n, Check.close(map, 0, 5, bow(n)), 0);
                CHECK.due("corners of " + n, map.told(0, 2), n);
                CHECK.due("where of " + n, map.where(), 0);
            }
        }
    }

    /** "TWICE: a CORNER stands twice"; "of TWICE the place of the second one". */
    private static void twice() {
        closeDue("the last like the first", ParcelMap::new, ParcelMap.TWICE, 3, 0, 0, 4, 0, 4, 4, 0, 0);
        closeDue("two at the beginning", ParcelMap::new, ParcelMap.TWICE, 1, 0, 0, 0, 0, 4, 0, 4, 4);
        closeDue("two at the end", ParcelMap::new, ParcelMap.TWICE, 3, 0, 0, 4, 0, 4, 4, 4, 4);
        closeDue("zeros of both signs", ParcelMap::new, ParcelMap.TWICE, 3, 0, 4, 4, 0, 4, 4, -0.0, 4);
        double[] twelve = bow(12);
        twelve[22] = twelve[0];
        twelve[23] = twelve[1];
        closeDue("the first and the twelfth", ParcelMap::new, ParcelMap.TWICE, 11, twelve);
        twelve = bow(12);
        twelve[22] = twelve[20];
        twelve[23] = twelve[21];
        closeDue("the eleventh and the twelfth", ParcelMap::new, ParcelMap.TWICE, 11, twelve);
    }

    /** "Of the first two like ones (the first one's place least, then the second's)". */
    private static void twiceOfTheFirstTwoLikeOnes() {
        closeDue("a b b a", ParcelMap::new, ParcelMap.TWICE, 3, 0, 0, 4, 0, 4, 0, 0, 0);
        closeDue("a b a b", ParcelMap::new, ParcelMap.TWICE, 2, 0, 0, 4, 0, 0, 0, 4, 0);
        closeDue("a a a", ParcelMap::new, ParcelMap.TWICE, 1, 1, 1, 1, 1, 1, 1);
        closeDue("a b c a a", ParcelMap::new, ParcelMap.TWICE, 3, 0, 0, 4, 0, 4, 4, 0, 0, 0, 0);
        closeDue("a b c d c b", ParcelMap::new, ParcelMap.TWICE, 5, 0, 0, 4, 0, 4, 4, 0, 4, 4, 4, 4, 0);
    }

    /** Edges that follow one another may have no more than their corner in common. */
    private static void crossedThatFollow() {
        closeDue("back along edge 0", ParcelMap::new, ParcelMap.CROSSED, 1, 0, 0, 4, 0, 2, 0, 0, 4);
        closeDue("back along edge 1", ParcelMap::new, ParcelMap.CROSSED, 102, 0, 0, 4, 0, 4, 4, 4, 2);
        closeDue("the last one back along the first", ParcelMap::new, ParcelMap.CROSSED, 3, 0, 0, 4, 0, 4, 4, 6, 0);
        closeDue("all in line", ParcelMap::new, ParcelMap.CROSSED, 2, 0, 0, 2, 2, 4, 4);
        closeDue("all in line, there and back", ParcelMap::new, ParcelMap.CROSSED, 1, 0, 0, 4, 4, 2, 2);
        double[] twelve = bow(12);
        twelve[22] = 9.5;
        twelve[23] = 90.5;
        // From (9, 81) to (10, 100) and back on the same line.
        closeDue("back along edge 9", ParcelMap::new, ParcelMap.CROSSED, 910, twelve);
        ParcelMap map = new ParcelMap();
        CHECK.due("on in line from edge 0", Check.close(map, 0, 5, 0, 0, 2, 0, 4, 0, 4, 4), 0);
        CHECK.due("on in line from the last edge", Check.close(map, 1, 5, 2, 0, 4, 0, 4, 4, 0, 0), 1);
        CHECK.ringDue("a corner in line stays", map, 1, 0, 0, 2, 0, 4, 0, 4, 4);
    }

    /** Which pair is the least that has too much in common, by the call cross() itself. */
    private static int lowest(double... xy) {
        ParcelMap map = new ParcelMap();
        int n = xy.length / 2;
        int[] corners = new int[n];
        for (int i = 0; i < n; i++) {
            corners[i] = Check.corner(map, xy[2 * i], xy[2 * i + 1]);
        }
        for (int i = 0; i < n; i++) {
            for (int j = i + 1; j < n; j++) {
                int common = map.cross(corners[i], corners[(i + 1) % n], corners[j], corners[(j + 1) % n]);
                boolean follow = j == i + 1 || i == 0 && j == n - 1;
                if (follow ? common == 3 : common != 0) {
                    return 100 * i + j;
                }
            }
        }
        return -1;
    }

    /** Other edges may have nothing at all in common. */
    private static void crossedThatDoNotFollow() {
        closeDue("through one another", ParcelMap::new, ParcelMap.CROSSED, 2, 0, 0, 4, 4, 4, 0, 0, 4);
        closeDue("a corner on an edge", ParcelMap::new, ParcelMap.CROSSED, 2, 0, 0, 4, 0, 4, 4, 2, 0, 0, 4);
        // Edges 0 and 3 share more than a point, and edge 2 ends there.
        closeDue("along one another", ParcelMap::new, ParcelMap.CROSSED, 2, 0, 0, 6, 0, 6, 4, 4, 0, 2, 0, 0, 4);
        ParcelMap map = new ParcelMap();
        CHECK.due("a hair off the edge", Check.close(map, 0, 5, 0, 0, 4, 0, 4, 4, 2, 0x1p-20, 0, 4), 0);
    }

    /** "100 times the one EDGE and the other one, the least such number (the one before the other)". */
    private static void crossedTheLeastSuchNumber() {
        double[] twice = {0, 0, 9, 0, 9, 9, 6, 1, 3, 8, 8.8, 8, 0, 9};
        closeDue("two pairs", ParcelMap::new, ParcelMap.CROSSED, 204, twice);
        CHECK.due("two pairs by cross()", lowest(twice), 204);
        // Edge 4 goes through edge 0, and edges 1 and 2 lie along one another.
        closeDue("4 is less than 102", ParcelMap::new, ParcelMap.CROSSED, 4, 0, 0, 9, 0, 9, 6, 9, 3, 5, 5, 5, -1);
        double[] twelve = {0, 0, 12, 0, 12, 3, 11, 5, 10, 3, 9, 5, 8, 3, 7, 5, 6, 3, 5, 5, 4, 3, 2, -1};
        closeDue("the greatest second one", ParcelMap::new, ParcelMap.CROSSED, 10, twelve);
        double[] late = {0, 0, 12, 0, 12, 3, 11, 5, 10, 3, 9, 5, 8, 3, 7, 5, 6, 3, 1, 3, 1, 5, 4, 2};
        closeDue("edges 8 and 10", ParcelMap::new, ParcelMap.CROSSED, 810, late);
        double[] last = {0, 0, 12, 0, 12, 3, 11, 5, 10, 3, 9, 5, 8, 3, 7, 5, 6, 3, 1, 3, 1, 1, 4, 4};
        closeDue("edges 8 and 10, 8 and 11", ParcelMap::new, ParcelMap.CROSSED, 810, last);
    }

    /** "As DRAWN": not as turned round, nor as begun at the corner ahead of all. */
    private static void crossedAsDrawn() {
        closeDue("from (4, 0)", ParcelMap::new, ParcelMap.CROSSED, 103, 4, 4, 4, 0, 0, 4, 0, 0);
        closeDue("from (0, 4)", ParcelMap::new, ParcelMap.CROSSED, 103, 0, 4, 0, 0, 4, 4, 4, 0);
        closeDue("the other way round", ParcelMap::new, ParcelMap.CROSSED, 2, 0, 4, 4, 0, 4, 4, 0, 0);
    }

    /** Boxes 0 and 1 of layer 0, box 2 of layer 1, box 3 of layer 0 that is gone, box 4 of layer 0. */
    private static ParcelMap boxes() {
        ParcelMap map = new ParcelMap();
        Check.box(map, 0, 0, 0, 4, 4);
        Check.box(map, 0, 10, 0, 14, 4);
        Check.box(map, 1, 20, 0, 24, 4);
        Check.box(map, 0, 30, 0, 34, 4);
        Check.box(map, 0, 40, 0, 44, 4);
        map.drop(3);
        return map;
    }

    /** "Of OVER the least PARCEL". */
    private static void over() {
        closeDue("over 0", FaultsTest::boxes, ParcelMap.OVER, 0, 1, 1, 2, 1, 2, 2);
        closeDue("over 1", FaultsTest::boxes, ParcelMap.OVER, 1, 9, 1, 12, 1, 12, 2);
        closeDue("over 4", FaultsTest::boxes, ParcelMap.OVER, 4, 39, -1, 45, -1, 45, 5, 39, 5);
        closeDue("over 0 and 1", FaultsTest::boxes, ParcelMap.OVER, 0, 3, 1, 11, 1, 11, 2);
        closeDue("over 1 and 4", FaultsTest::boxes, ParcelMap.OVER, 1, 13, 1, 41, 1, 41, 2);
        closeDue("the same as 1", FaultsTest::boxes, ParcelMap.OVER, 1, 10, 0, 14, 0, 14, 4, 10, 4);
        closeDue("the same as 1, round", FaultsTest::boxes, ParcelMap.OVER, 1, 10, 0, 10, 4, 14, 4, 14, 0);
        closeDue("over 0 by a hair", FaultsTest::boxes, ParcelMap.OVER, 0, Math.nextDown(4.0), 0, 8, 0, 8, 4);
        ParcelMap map = boxes();
        CHECK.due("it touches 0 and 1", Check.box(map, 0, 4, 0, 10, 4), 5);
        CHECK.due("it touches a corner", Check.close(map, 0, 0, 4, 4, 6, 6, 4, 6), 6);
        CHECK.due("touching is no fault", map.where(), 0);
    }

    /** "A PARCEL of the LAYER": one that is gone, or whose close() was undone, is none. */
    private static void overNoneThatIsGone() {
        ParcelMap map = boxes();
        CHECK.due("where 3 was", Check.box(map, 0, 30, 0, 34, 4), 5);
        CHECK.due("undo", map.undo(), 1);
        CHECK.due("where 5 was", Check.box(map, 0, 31, 1, 33, 3), 6);
        CHECK.due("join", map.join(0, 6), ParcelMap.APART);
        CHECK.due("where stays", map.where(), 0);
        closeDue("one that came back", () -> {
            ParcelMap back = boxes();
            back.undo();
            return back;
        }, ParcelMap.OVER, 3, 31, 1, 33, 1, 33, 3);
    }

    private static void overOfAnotherLayer() {
        ParcelMap map = boxes();
        CHECK.due("layer 0", Check.box(map, 0, 20, 0, 24, 4), 5);
        CHECK.due("layer 2", Check.box(map, 2, 20, 0, 24, 4), 6);
        CHECK.due("layer 3", Check.box(map, 3, 20, 0, 24, 4), 7);
        CHECK.due("layer 1", Check.box(map, 1, 20, 0, 24, 4), ParcelMap.OVER);
        CHECK.due("layer 1: where", map.where(), 2);
    }

    private static void theFirstInThisOrderCounts() {
        closeDue("few ahead of twice", FaultsTest::boxes, ParcelMap.FEW, 2, 1, 1, 1, 1);
        double[] many = new double[26];
        System.arraycopy(new double[] {1, 1, 3, 3, 3, 1, 1, 3, 1, 1}, 0, many, 0, 10);
        closeDue("few ahead of twice, crossed, over", FaultsTest::boxes, ParcelMap.FEW, 13, many);
        closeDue("twice ahead of crossed", ParcelMap::new, ParcelMap.TWICE, 4, 1, 1, 3, 3, 3, 1, 1, 3, 1, 1);
        closeDue("twice ahead of over", FaultsTest::boxes, ParcelMap.TWICE, 3, 1, 1, 3, 1, 3, 3, 1, 1);
        closeDue("crossed ahead of over", FaultsTest::boxes, ParcelMap.CROSSED, 2, 1, 1, 3, 3, 3, 1, 1, 3);
    }

    private static void whereOfTheLatestFault() {
        ParcelMap map = boxes();
        CHECK.due("over", Check.close(map, 0, 5, 11, 1, 12, 1, 12, 2), ParcelMap.OVER);
        CHECK.due("where", map.where(), 1);
        CHECK.due("the same ring elsewhere", map.close(1, 5), 5);
        CHECK.due("what is no refusal leaves where", map.where(), 1);
        CHECK.due("few", map.close(0, 5), ParcelMap.FEW);
        CHECK.due("where of few", map.where(), 0);
        CHECK.due("twice", Check.close(map, 0, 5, 1, 1, 2, 2, 1, 1), ParcelMap.TWICE);
        CHECK.due("undo", map.undo(), 1);
        CHECK.due("undo leaves where", map.where(), 2);
        map.draw();
        CHECK.due("draw leaves where", map.where(), 2);
    }

    private static ParcelMap two(double[] p, double... q) {
        ParcelMap map = new ParcelMap();
        CHECK.due("the first one", Check.close(map, 0, 5, p), 0);
        CHECK.due("the second one", Check.close(map, 0, 6, q), 1);
        return map;
    }

    private static void joinDue(String name, int due, int where, int roundWhere, double... q) {
        Supplier<ParcelMap> scene = () -> two(SLOT, q);
        TWINS.fault("join: " + name, scene, m -> m.join(0, 1), due, where);
        TWINS.fault("join, round: " + name, scene, m -> m.join(1, 0), due, roundWhere);
    }

    /** The slot has 8 corners, so 12 are left with one edge and 6 corners of the other one. */
    private static void joinFew() {
        double[] six = {0, 6, 2, 6, 2, 8, 1.5, 9, 0.5, 9, 0, 8};
        double[] seven = {0, 6, 2, 6, 2, 8, 1.5, 9, 1, 9.5, 0.5, 9, 0, 8};
        ParcelMap map = two(SLOT, six);
        CHECK.due("twelve are left", map.join(0, 1), 12);
        CHECK.due("twelve: where", map.where(), 0);
        map = two(SLOT, six);
        CHECK.due("twelve are left, round", map.join(1, 0), 12);
        joinDue("thirteen", ParcelMap.FEW, 13, 13, seven);
        double[] most = new double[24];
        System.arraycopy(new double[] {0, 6, 2, 6}, 0, most, 0, 4);
        for (int i = 0; i < 10; i++) {
            most[4 + 2 * i] = 2 - 0.2 * i;
            most[5 + 2 * i] = 9 - (i - 4) * (i - 4) * 0.0625;
        }
        joinDue("eighteen", ParcelMap.FEW, 18, 18, most);
    }

    /** "WHERE as of the RING that begins behind those EDGES in p". */
    private static void joinTwiceAndCrossed() {
        // (0,6) (0,0) (6,0) (6,6) (4,6) (4,2) (2,2) (2,6), then (4,6) (3,8);
        // round: (2,6) (4,6) (3,8) (0,6), then (0,0) (6,0) (6,6) (4,6) (4,2) (2,2).
        joinDue("a corner of both", ParcelMap.TWICE, 8, 7, 0, 6, 2, 6, 4, 6, 3, 8);
        // (0,6) (0,0) (6,0) (6,6) (4,6) (4,2) (2,2) (2,6), then (2,5) (4,5) (4,8) (0,8);
        // round: (2,6) (2,5) (4,5) (4,8) (0,8) (0,6), then (0,0) (6,0) (6,6) (4,6) (4,2) (2,2).
        joinDue("along an edge", ParcelMap.CROSSED, 309, 11, 0, 6, 2, 6, 2, 5, 4, 5, 4, 8, 0, 8);
        // (0,6) (0,0) (6,0) (6,6) (4,6) (4,2) (2,2) (2,6), then (5,6) (3,8);
        // round: (2,6) (5,6) (3,8) (0,6), then (0,0) (6,0) (6,6) (4,6) (4,2) (2,2).
        joinDue("a corner on an edge", ParcelMap.CROSSED, 307, 6, 0, 6, 2, 6, 5, 6, 3, 8);
    }

    private static void joinOrder() {
        joinDue("twice ahead of crossed", ParcelMap.TWICE, 8, 9, 0, 6, 2, 6, 4, 6, 5, 6, 5, 8, 0, 8);
        joinDue("few ahead of twice and crossed", ParcelMap.FEW, 13, 13,
                0, 6, 2, 6, 4, 6, 5, 6, 5, 8, 2, 9, 0, 8);
        // Along the slot's side: the edges meet, and there are too many corners.
        joinDue("few ahead of crossed", ParcelMap.FEW, 13, 13, 0, 6, 2, 6, 2, 5, 4, 5, 4, 8, 1, 9, 0, 8);
    }

    /** Rings that would be TWICE, CROSSED or FEW if they were joined, in layers of their own. */
    private static void joinOutsideAheadOfFaults() {
        double[][] faulty = {{0, 6, 2, 6, 4, 6, 3, 8}, {0, 6, 2, 6, 5, 6, 3, 8},
            {0, 6, 2, 6, 2, 8, 1.5, 9, 1, 9.5, 0.5, 9, 0, 8}};
        for (double[] q : faulty) {
            Supplier<ParcelMap> scene = () -> {
                ParcelMap map = new ParcelMap();
                Check.close(map, 0, 5, SLOT);
                Check.close(map, 1, 6, q);
                return map;
            };
            TWINS.refused("outside ahead of faults", scene, m -> m.join(0, 1), ParcelMap.OUTSIDE);
            TWINS.refused("outside ahead of faults, round", scene, m -> m.join(1, 0), ParcelMap.OUTSIDE);
        }
    }

    private static void joinApartAheadOfFaults() {
        // Both legs' tops are in common, and 8 + 12 corners are too many for any ring.
        double[] bridge = {0, 6, 2, 6, 3, 5, 4, 6, 6, 6, 6, 8, 5, 9, 4, 9.5, 3, 9.75, 2, 9.5, 1, 9, 0, 8};
        Supplier<ParcelMap> scene = () -> two(SLOT, bridge);
        TWINS.refused("two edges in two rows", scene, m -> m.join(0, 1), ParcelMap.APART);
        TWINS.refused("two edges in two rows, round", scene, m -> m.join(1, 0), ParcelMap.APART);
    }

    /** Three boxes side by side, the one on the right being number 1. */
    private static ParcelMap three() {
        ParcelMap map = new ParcelMap();
        Check.box(map, 0, 0, 0, 4, 4);
        Check.box(map, 0, 6, 0, 8, 4);
        Check.box(map, 0, 5, 0, 6, 4);
        Check.box(map, 1, 4, 0, 5, 4);
        return map;
    }

    private static void moveDue(String name, int place, double x, double y, int due, int where) {
        ToLongFunction<ParcelMap> call = m -> m.move(0, place, Check.corner(m, x, y));
        TWINS.fault("move: " + name, () -> {
            ParcelMap map = three();
            Check.corner(map, x, y);
            return map;
        }, call, due, where);
    }

    /** "Of the RING as its CORNERS stand, with c in that place". */
    private static void moveFaults() {
        moveDue("to the next corner", 0, 4, 0, ParcelMap.TWICE, 1);
        moveDue("to the one before", 3, 4, 4, ParcelMap.TWICE, 3);
        moveDue("the last to the first", 3, 0, 0, ParcelMap.TWICE, 3);
        moveDue("the first to the last", 0, 0, 4, ParcelMap.TWICE, 3);
        moveDue("onto an edge that follows", 2, 2, 0, ParcelMap.CROSSED, 1);
        moveDue("through an edge", 3, 2, -2, ParcelMap.CROSSED, 2);
        moveDue("corner 0 through an edge", 0, 9, 3, ParcelMap.CROSSED, 103);
        moveDue("over 1 and 2", 2, 7, 2, ParcelMap.OVER, 1);
        moveDue("over 2", 2, 5.5, 2, ParcelMap.OVER, 2);
        moveDue("over 2 by a hair", 2, Math.nextUp(5.0), 2, ParcelMap.OVER, 2);
        ParcelMap map = three();
        CHECK.due("to touch 2", map.move(0, 2, Check.corner(map, 5, 2)), 2);
        CHECK.due("where is as it was", map.where(), 0);
    }

    private static void moveOrder() {
        moveDue("crossed ahead of over", 0, 7, 3, ParcelMap.CROSSED, 103);
        Supplier<ParcelMap> scene = () -> {
            ParcelMap map = new ParcelMap();
            Check.close(map, 0, 5, 0, 0, 4, 0, 4, 4, 2, 3, 0, 4);
            return map;
        };
        // With corner 3 at (0,0) edges 0 and 3 would lie over one another as well.
        TWINS.fault("twice ahead of crossed", scene, m -> m.move(0, 3, 0), ParcelMap.TWICE, 3);
    }

    /** "Itself it may LIE OVER", and OVER is told of none but those of its own layer. */
    private static void moveOverItself() {
        ParcelMap map = three();
        CHECK.due("within itself", map.move(0, 2, Check.corner(map, 3, 3)), 2);
        CHECK.due("beyond itself", map.move(0, 2, Check.corner(map, 5, 5)), Check.corner(map, 3, 3));
        CHECK.due("to where it is", map.move(0, 2, Check.corner(map, 5, 5)), Check.corner(map, 5, 5));
        CHECK.due("where", map.where(), 0);
    }
}
