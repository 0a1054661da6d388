/**
 * Ways through rings: "which PARCELS of a LAYER the SEGMENT a b goes through the inside of", "what is
 * between them is not all inside of it", and what lies over one another, in all sorts of bent rings.
 */
final class WaysTest {
    private static final Check CHECK = new Check();
    /** Three teeth that stand on a ground: twelve corners. */
    private static final double[] COMB = {0, 0, 10, 0, 10, 6, 8, 6, 8, 1, 6, 1, 6, 6, 4, 6, 4, 1, 2, 1, 2, 6, 0, 6};

    public static void main(String[] args) {
        for (int power = -17; power <= 23; power++) {
            double scale = Math.scalb(1.0, power);
            inByEachEdge(scale);
            inByEachCorner(scale);
            alongEachEdge(scale);
            throughTeeth(scale);
            pastManyCorners(scale);
            middleOnTheOtherSide(scale);
            middleInLineWithAnEdge(scale);
            splitThroughTeeth(scale);
            overTeeth(scale);
            overAtTheFirstCorner(scale);
            hullInAnyOrder(scale);
        }
        CHECK.finish();
    }

    private static double[] times(double scale, double... xy) {
        double[] all = xy.clone();
        for (int i = 0; i < all.length; i++) {
            all[i] *= scale;
        }
        return all;
    }

    private static ParcelMap comb(double scale) {
        ParcelMap map = new ParcelMap();
        CHECK.due("the comb", Check.close(map, 0, 5, times(scale, COMB)), 0);
        return map;
    }

    private static void walkDue(String name, ParcelMap map, double scale, int due, double... way) {
        int a = Check.corner(map, way[0] * scale, way[1] * scale);
        int b = Check.corner(map, way[2] * scale, way[3] * scale);
        CHECK.due(name + " times " + scale, map.walk(0, a, b, 0), due);
        CHECK.due(name + ", back, times " + scale, map.walk(0, b, a, 0), due);
    }

    /** A long way outside, and a short piece of it inside, by one edge after the other. */
    private static void inByEachEdge(double scale) {
        ParcelMap map = comb(scale);
        double[][] ways = {{5, -8, 5, 0.5}, {18, 3, 9, 3}, {9, 16, 9, 5}, {7, 3, 9, 3}, {7, 5, 7, 0.5}, {7, 3, 5, 3},
            {5, 16, 5, 5}, {3, 3, 5, 3}, {3, 5, 3, 0.5}, {3, 3, 1, 3}, {1, 16, 1, 5}, {-8, 3, 1, 3}};
        for (int i = 0; i < ways.length; i++) {
            walkDue("in by edge " + i, map, scale, 0, ways[i]);
        }
        double[][] upTo = {{5, -8, 5, 0}, {18, 3, 10, 3}, {9, 16, 9, 6}, {7, 3, 8, 3}, {7, 5, 7, 1}, {7, 3, 6, 3},
            {5, 16, 5, 6}, {3, 3, 4, 3}, {3, 5, 3, 1}, {3, 3, 2, 3}, {1, 16, 1, 6}, {-8, 3, 0, 3}};
        for (int i = 0; i < upTo.length; i++) {
            walkDue("up to edge " + i, map, scale, ParcelMap.NONE, upTo[i]);
        }
    }

    private static void inByEachCorner(double scale) {
        ParcelMap map = comb(scale);
        double[][] in = {{-6, -6, 0.5, 0.5}, {16, -6, 9.5, 0.5}, {14, 10, 9, 5}, {4, 10, 9, 5}, {7, 2, 8.5, 0.5},
            {7, 2, 5.5, 0.5}, {7, 7, 5, 5}, {3, 7, 5, 5}, {3, 2, 4.5, 0.5}, {3, 2, 1.5, 0.5}, {3, 7, 1, 5}, {-1, 7, 1, 5}};
        for (int i = 0; i < in.length; i++) {
            walkDue("in by corner " + i, map, scale, 0, in[i]);
            walkDue("up to corner " + i, map, scale, ParcelMap.NONE, in[i][0], in[i][1], COMB[2 * i], COMB[2 * i + 1]);
        }
        walkDue("by corner 0", map, scale, ParcelMap.NONE, -1, 1, 1, -1);
        walkDue("by corner 6", map, scale, ParcelMap.NONE, 5.5, 6.5, 6.5, 5.5);
        walkDue("by both ends of an edge", map, scale, ParcelMap.NONE, 7, 6, 3, 6);
    }

    private static void alongEachEdge(double scale) {
        ParcelMap map = comb(scale);
        for (int i = 0; i < 12; i++) {
            int next = (i + 1) % 12;
            walkDue("along edge " + i, map, scale, ParcelMap.NONE, COMB[2 * i], COMB[2 * i + 1],
                    COMB[2 * next], COMB[2 * next + 1]);
        }
        walkDue("along the ground, and beyond it", map, scale, ParcelMap.NONE, -4, 0, 19, 0);
        walkDue("over all teeth", map, scale, ParcelMap.NONE, -4, 6, 19, 6);
        walkDue("along the gap's ground, into a tooth", map, scale, 0, 6, 1, 9, 1);
        walkDue("along the gap's ground", map, scale, ParcelMap.NONE, 6, 1, 8, 1);
        walkDue("down a side, into the ground", map, scale, 0, 6, 9, 6, 0.5);
        walkDue("down a side", map, scale, ParcelMap.NONE, 6, 9, 6, 1);
    }

    /** Ways from gap to gap and from tooth to tooth, their middle inside or outside. */
    private static void throughTeeth(double scale) {
        ParcelMap map = comb(scale);
        walkDue("from tooth to tooth, corner to corner", map, scale, 0, 2, 1, 6, 1);
        walkDue("over a gap, from corner to corner", map, scale, ParcelMap.NONE, 2, 6, 4, 6);
        walkDue("within a gap, from corner to corner", map, scale, ParcelMap.NONE, 2, 1, 4, 6);
        walkDue("within a gap, from side to side", map, scale, ParcelMap.NONE, 6, 3, 8, 5);
        walkDue("within a tooth, from side to side", map, scale, 0, 4, 3, 6, 5);
        walkDue("within a tooth, from corner to corner", map, scale, 0, 4, 1, 6, 6);
        walkDue("through all teeth", map, scale, 0, -3, 3, 14, 4);
        walkDue("level with the ground of all gaps", map, scale, 0, -4, 1, 16, 1);
        walkDue("from a gap's corner through a tooth to another's", map, scale, 0, 2, 6, 8, 1);
    }

    /** Nine corners of it are in line with the way, and it goes inside between two of them alone. */
    private static void pastManyCorners(double scale) {
        double[] teeth = {0, -1, 10, -1, 9, 0, 8, 0, 7, 0, 6, 0, 5, 0, 4, 0, 3, 0, 2, 0, 1, 1, 0, 0};
        ParcelMap map = new ParcelMap();
        CHECK.due("many in line", Check.close(map, 0, 5, times(scale, teeth)), 0);
        walkDue("all along", map, scale, 0, -5, 0, 11, 0);
        walkDue("along the flat ones", map, scale, ParcelMap.NONE, 2, 0, 12, 0);
        walkDue("inside from corner to corner", map, scale, 0, 0, 0, 2, 0);
        double[] upright = {-1, 0, 0, 0, 1, 1, 0, 2, 0, 3, 0, 4, 0, 5, 0, 6, 0, 7, 0, 8, 0, 9, -1, 10};
        map = new ParcelMap();
        CHECK.due("many upright in line", Check.close(map, 0, 5, times(scale, upright)), 0);
        walkDue("all along, upright", map, scale, 0, 0, -5, 0, 11);
        walkDue("along the flat ones, upright", map, scale, ParcelMap.NONE, 0, 2, 0, 12);
        walkDue("inside from corner to corner, upright", map, scale, 0, 0, 0, 0, 2);
    }

    /** Edges whose lines part the two ends of a way, while its middle lies clearly on one side. */
    private static void middleOnTheOtherSide(double scale) {
        ParcelMap map = new ParcelMap();
        // A wedge from (4, 0) to the right; ways beside it that its edges' lines go through.
        Check.close(map, 0, 5, times(scale, 4, 0, 12, -4, 12, 4));
        walkDue("left of the wedge", map, scale, ParcelMap.NONE, 0, -6, 2, 7);
        walkDue("above the wedge", map, scale, ParcelMap.NONE, 0, 1, 12, 5);
        walkDue("above the wedge, steep", map, scale, ParcelMap.NONE, 2, -3, 6, 6);
        walkDue("below the wedge", map, scale, ParcelMap.NONE, 1, 0, 11, -5);
        walkDue("in at the wedge's end", map, scale, 0, 3, 0, 5, 0);
        walkDue("across the wedge", map, scale, 0, 8, -9, 9, 9);
        map = new ParcelMap();
        // A hook: its inner corner parts ways that begin and end on its border.
        Check.close(map, 0, 5, times(scale, 0, 0, 12, 0, 12, 12, 8, 12, 8, 4, 0, 4));
        walkDue("outside, from corner to corner", map, scale, ParcelMap.NONE, 0, 4, 8, 12);
        walkDue("inside, from corner to corner", map, scale, 0, 0, 0, 12, 12);
        walkDue("inside, by the inner corner", map, scale, 0, 4, 0, 12, 8);
        walkDue("inside, from border to border", map, scale, 0, 2, 4, 12, 1);
        walkDue("outside, from border to border", map, scale, ParcelMap.NONE, 6, 4, 8, 10);
    }

    /** One of the eight ways to turn a drawing on a square sheet, over or round. */
    private static double[] turned(int way, double... xy) {
        double[] all = xy.clone();
        for (int i = 0; i + 1 < all.length; i += 2) {
            boolean swap = (way & 4) != 0;
            all[i] = ((way & 1) != 0 ? -1 : 1) * xy[swap ? i + 1 : i];
            all[i + 1] = ((way & 2) != 0 ? -1 : 1) * xy[swap ? i : i + 1];
        }
        return all;
    }

    /** The middle of the way is in line with an edge, beyond its end, and inside. */
    private static void middleInLineWithAnEdge(double scale) {
        for (int way = 0; way < 8; way++) {
            ParcelMap map = new ParcelMap();
            Check.close(map, 0, 5, times(scale, turned(way, 0, 0, 20, 0, 20, 12, 8, 12, 8, 4, 0, 4)));
            walkDue("in line with a level edge, " + way, map, scale, 0, turned(way, 7, 1, 17, 7));
            walkDue("in line with an upright edge, " + way, map, scale, 0, turned(way, 1, 1, 15, 3));
            map = new ParcelMap();
            Check.close(map, 0, 5, times(scale, turned(way, 0, 0, 20, 0, 20, 20, 8, 20, 8, 8, 0, 4)));
            walkDue("in line with a slanting edge, " + way, map, scale, 0, turned(way, 7, 2, 17, 18));
            walkDue("in line, nearer to the edge, " + way, map, scale, 0, turned(way, 7, 2, 11, 15));
        }
    }

    private static void splitDue(String name, double scale, int i, int j, int due) {
        ParcelMap map = comb(scale);
        CHECK.due("split " + name + " times " + scale, map.split(0, i, j, 6), due);
        CHECK.due("parcels then", map.count(1), due == 1 ? 2 : 1);
    }

    private static void splitThroughTeeth(double scale) {
        splitDue("through both gaps, the middle inside", scale, 0, 2, ParcelMap.APART);
        splitDue("through both gaps, the other way", scale, 1, 11, ParcelMap.APART);
        splitDue("along all tops", scale, 2, 11, ParcelMap.APART);
        splitDue("along the gap's ground and a tooth", scale, 4, 8, ParcelMap.APART);
        splitDue("along both gaps' grounds", scale, 4, 9, ParcelMap.APART);
        splitDue("below a tooth", scale, 5, 8, 1);
        splitDue("in a gap", scale, 3, 6, ParcelMap.APART);
        splitDue("in a gap, aslant", scale, 3, 5, ParcelMap.APART);
        splitDue("across a tooth", scale, 5, 7, 1);
        splitDue("from the ground to a gap", scale, 0, 8, 1);
        splitDue("from the ground past a gap's corner", scale, 0, 3, ParcelMap.APART);
        splitDue("the whole ground", scale, 0, 4, 1);
        splitDue("from a tooth over a gap to the next", scale, 2, 7, ParcelMap.APART);
        splitDue("from a gap's corner through its side", scale, 4, 6, ParcelMap.APART);
    }

    private static void overDue(String name, double scale, int due, double... xy) {
        ParcelMap map = comb(scale);
        CHECK.due("close " + name + " times " + scale, Check.close(map, 0, 6, times(scale, xy)), due);
    }

    private static void overTeeth(double scale) {
        overDue("in a gap", scale, 1, 6, 1, 8, 1, 8, 6, 6, 6);
        overDue("in a gap and on", scale, 1, 6, 1, 8, 1, 8, 9, 6, 9);
        overDue("a wedge in a gap", scale, 1, 7, 1, 8, 6, 6, 6);
        overDue("over the gaps, above the teeth", scale, 1, 2, 6, 4, 6, 6, 6, 8, 6, 5, 9);
        overDue("from gap to gap through a tooth", scale, ParcelMap.OVER, 3, 3, 7, 3, 7, 4, 3, 4);
        overDue("from gap to gap along a tooth's corners", scale, ParcelMap.OVER, 4, 1, 6, 6, 4, 6);
        overDue("within a tooth, corner to corner", scale, ParcelMap.OVER, 4, 1, 6, 1, 6, 6, 4, 6);
        overDue("all of the ground", scale, ParcelMap.OVER, 0, 0, 10, 0, 8, 1, 6, 1, 4, 1, 2, 1);
        overDue("around it", scale, ParcelMap.OVER, -1, -1, 11, -1, 11, 7, -1, 7);
        overDue("its hull", scale, ParcelMap.OVER, 0, 0, 10, 0, 10, 6, 0, 6);
        overDue("the same", scale, ParcelMap.OVER, COMB);
        overDue("a sliver from gap to gap", scale, ParcelMap.OVER, 2, 1, 4, 1, 6, 1, 8, 1, 5, 0.5);
    }

    /** Thin rings whose first corner is the highest, the lowest, or the one furthest to the left. */
    private static void overAtTheFirstCorner(double scale) {
        double[][] thin = {{0, 10, 5, 0, 6, 1}, {0, 0, 6, 9, 5, 10}, {0, 5, 9, 4, 9, 6}};
        double[][] small = {{1, 8, 1.25, 8, 1.25, 8.5}, {1, 1.5, 1.25, 1.5, 1.25, 2}, {0.5, 4, 1, 4, 1, 6}};
        double[][] beside = {{1, 9, 1.25, 9, 1.25, 9.5}, {1, 1, 1.25, 1, 1.25, 1.25}, {-1, 4, 0, 4, 0, 6}};
        for (int i = 0; i < thin.length; i++) {
            ParcelMap map = new ParcelMap();
            CHECK.due("thin " + i, Check.close(map, 0, 5, times(scale, thin[i])), 0);
            CHECK.due("over thin " + i, Check.close(map, 0, 5, times(scale, small[i])), ParcelMap.OVER);
            CHECK.due("beside thin " + i, Check.close(map, 0, 5, times(scale, beside[i])), 1);
            map = new ParcelMap();
            CHECK.due("small " + i, Check.close(map, 0, 5, times(scale, small[i])), 0);
            CHECK.due("over small " + i, Check.close(map, 0, 5, times(scale, thin[i])), ParcelMap.OVER);
        }
    }

    /** "The least convex RING around all": whatever order its corners were made in. */
    private static void hullInAnyOrder(double scale) {
        double[][] at = {{0, 0}, {6, 0}, {8, 3}, {6, 6}, {0, 6}, {-2, 3}};
        for (int first = 0; first < at.length; first++) {
            for (int step : new int[] {1, 5}) {
                ParcelMap map = new ParcelMap();
                for (int i = 0; i < at.length; i++) {
                    double[] xy = at[(first + step * i) % at.length];
                    Check.corner(map, xy[0] * scale, xy[1] * scale);
                }
                Check.box(map, 0, 0, 0, 6 * scale, 6 * scale);
                Check.close(map, 0, 5, times(scale, 6, 0, 8, 3, 6, 6));
                Check.close(map, 0, 5, times(scale, 0, 0, -2, 3, 0, 6));
                CHECK.due("hull", map.hull(0), 6);
                double[] due = {-2, 3, 0, 0, 6, 0, 8, 3, 6, 6, 0, 6};
                for (int k = 0; k < 6; k++) {
                    CHECK.due("hull's x " + k, map.at(map.hullAt(k), 0), Check.bits(due[2 * k] * scale));
                    CHECK.due("hull's y " + k, map.at(map.hullAt(k), 1), Check.bits(due[2 * k + 1] * scale));
                }
            }
        }
    }
}
