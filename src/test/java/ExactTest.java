/**
 * "All that is told of CORNERS, SEGMENTS, RINGS is exact, as of those real numbers": where the last bit
 * of a number, or of what is reckoned from numbers, makes the difference.
 */
final class ExactTest {
    private static final Check CHECK = new Check();
    /** Around BASE, numbers are whole times UNIT: no two numbers are nearer to one another. */
    private static final double BASE = 0x1.8p-20;
    private static final double UNIT = 0x1p-72;

    public static void main(String[] args) {
        sideByTheLeastOfAll();
        crossInLineByAHair();
        crossByTheLeastOfAll();
        nearestAwayFromZero();
        nearestAsNear();
        ringByTheLeastOfAll();
        overByTheLeastOfAll();
        splitByTheLeastOfAll();
        borderByAHair();
        locateByTheLeastOfAll();
        walkByTheLeastOfAll();
        walkByHalfOfTheLeast();
        hullByTheLeastOfAll();
        twiceAtEachPower();
        compareByTheLeastOfAll();
        quotaByTheLeastOfAll();
        CHECK.finish();
    }

    private static double unit(long units) {
        return BASE + units * UNIT;
    }

    /** (n + 1) (n - 1) - n n is -1, which no product of doubles shows. */
    private static void sideByTheLeastOfAll() {
        for (int power = 27; power < 48; power += 5) {
            long n = 1L << power;
            ParcelMap map = new ParcelMap();
            int c = Check.corner(map, unit(0), unit(0));
            int a = Check.corner(map, unit(n + 1), unit(n));
            int b = Check.corner(map, unit(n), unit(n - 1));
            int d = Check.corner(map, unit(n), unit(n + 1));
            CHECK.due("right by 1, " + power, map.side(a, b, c), -1);
            CHECK.due("right by 1 is not sure, " + power, map.sure(), 0);
            CHECK.due("left by 1, " + power, map.side(b, a, c), 1);
            CHECK.due("left by much, " + power, map.side(a, d, c), 1);
        }
    }

    private static void crossInLineByAHair() {
        ParcelMap map = new ParcelMap();
        int a = Check.corner(map, 0, 0);
        int b = Check.corner(map, 1, 1);
        double down = Math.nextDown(1.0);
        double up = Math.nextUp(1.0);
        int before = Check.corner(map, down, down);
        int behind = Check.corner(map, up, up);
        int far = Check.corner(map, 9, 9);
        CHECK.due("ends meet", map.cross(a, b, b, far), 2);
        CHECK.due("a hair in common", map.cross(a, b, before, far), 3);
        CHECK.due("a hair apart", map.cross(a, b, behind, far), 0);
        CHECK.due("a hair in common, round", map.cross(far, before, b, a), 3);
        CHECK.due("a hair apart, round", map.cross(far, behind, b, a), 0);
        int level = Check.corner(map, 0, 1);
        int levelBefore = Check.corner(map, down, 1);
        int levelFar = Check.corner(map, 9, 1);
        CHECK.due("level, ends meet", map.cross(level, b, b, levelFar), 2);
        CHECK.due("level, a hair in common", map.cross(level, b, levelBefore, levelFar), 3);
        int upright = Check.corner(map, 1, 0);
        int uprightBefore = Check.corner(map, 1, down);
        int uprightFar = Check.corner(map, 1, 9);
        CHECK.due("upright, a hair in common", map.cross(upright, b, uprightBefore, uprightFar), 3);
        CHECK.due("upright, a hair apart", map.cross(upright, uprightBefore, b, uprightFar), 0);
    }

    private static void crossByTheLeastOfAll() {
        long n = 1L << 30;
        ParcelMap map = new ParcelMap();
        int c = Check.corner(map, unit(0), unit(0));
        int a = Check.corner(map, unit(n), unit(n + 1));
        int b = Check.corner(map, unit(1 - n), unit(-n));
        int other = Check.corner(map, unit(n), unit(-n));
        int back = Check.corner(map, unit(-n), unit(n));
        // (1 - n) (n + 1) + n n is 1.
        CHECK.due("c is a hair left", map.side(b, a, c), 1);
        CHECK.due("it ends a hair short", map.cross(b, a, c, back), 0);
        CHECK.due("it goes a hair through", map.cross(b, a, c, other), 1);
        CHECK.due("it goes through", map.cross(b, a, back, other), 1);
    }

    private static void nearestAwayFromZero() {
        double[][] at = {{1, 1}, {-3, 5}, {0x1p20, -7}, {-0.1, -0.3}};
        for (double[] point : at) {
            double x = point[0];
            double y = point[1];
            double right = x + 0.5;
            double left = x - 0.5;
            ParcelMap map = new ParcelMap();
            Check.corner(map, right, y);
            Check.corner(map, left + 4 * Math.ulp(left), y);
            CHECK.due("left by a hair " + x, map.nearest(Check.bits(x), Check.bits(y)), 1);
            map = new ParcelMap();
            Check.corner(map, x, y - 0.5);
            Check.corner(map, x, y + 0.5 - 4 * Math.ulp(y));
            CHECK.due("above by a hair " + x, map.nearest(Check.bits(x), Check.bits(y)), 1);
            map = new ParcelMap();
            Check.corner(map, left + 4 * Math.ulp(left), y);
            Check.corner(map, right, y);
            CHECK.due("left by a hair, round " + x, map.nearest(Check.bits(x), Check.bits(y)), 0);
        }
    }

    /** "Of those as near the least number". */
    private static void nearestAsNear() {
        ParcelMap map = new ParcelMap();
        double[][] at = {{7, 1}, {4, 6}, {2, 6}, {6, 4}, {-2, 1}, {3, -4}};
        for (double[] xy : at) {
            Check.corner(map, xy[0], xy[1]);
        }
        // From (2, 1): 5, less than 6, 5, less than 6, 4, less than 6.
        CHECK.due("the nearest of all", map.nearest(Check.bits(2), Check.bits(1)), 4);
        // From (3, 1): squares of 16, 26, 26, 18, 25, 25.
        CHECK.due("the first of all", map.nearest(Check.bits(3), Check.bits(1)), 0);
        map = new ParcelMap();
        double[][] ring = {{9, 9}, {-1, 5}, {6, 4}, {7, 1}, {2, 6}};
        for (double[] xy : ring) {
            Check.corner(map, xy[0], xy[1]);
        }
        // From (2, 1) the last four are all as far as 5.
        CHECK.due("of like ones the least", map.nearest(Check.bits(2), Check.bits(1)), 1);
    }

    private static void ringByTheLeastOfAll() {
        long n = 1L << 30;
        ParcelMap map = new ParcelMap();
        CHECK.due("a sliver", Check.close(map, 0, 5, unit(0), unit(0), unit(n + 1), unit(n), unit(n), unit(n - 1)), 0);
        CHECK.ringDue("it turns left", map, 0, unit(0), unit(0), unit(n), unit(n - 1), unit(n + 1), unit(n));
        CHECK.due("in line", Check.close(map, 0, 5, unit(0), unit(0), unit(n), unit(n), unit(n + 1), unit(n + 1)),
                ParcelMap.CROSSED);
    }

    /** A sliver on either side of a common edge, the second one a unit off, or not. */
    private static void overByTheLeastOfAll() {
        long n = 1L << 30;
        ParcelMap map = new ParcelMap();
        Check.close(map, 0, 5, unit(0), unit(0), unit(n), unit(n - 1), unit(n + 1), unit(n));
        CHECK.due("at the other side of its edge", Check.close(map, 0, 5, unit(0), unit(0), unit(n + 1), unit(n),
                unit(0), unit(n)), 1);
        CHECK.due("at its third side", Check.close(map, 0, 5, unit(n), unit(n - 1), unit(n + 2), unit(n - 2),
                unit(n + 1), unit(n)), 2);
        CHECK.due("over by a unit", Check.close(map, 0, 5, unit(0), unit(0), unit(n), unit(0), unit(n), unit(n)),
                ParcelMap.OVER);
        CHECK.due("over number 0", map.where(), 0);
        CHECK.due("below it", Check.close(map, 0, 5, unit(0), unit(0), unit(n), unit(0), unit(n), unit(n - 1)), 3);
    }

    private static void splitByTheLeastOfAll() {
        long n = 1L << 30;
        for (int bend = -1; bend <= 1; bend++) {
            ParcelMap map = new ParcelMap();
            // From (0, 0) by a corner that is all but in line on to (2 n, 2 n), and back by (0, 2 n).
            Check.close(map, 0, 5, unit(0), unit(0), unit(n), unit(n + bend), unit(2 * n), unit(2 * n),
                    unit(0), unit(2 * n));
            CHECK.due("cut beside a bend of " + bend, map.split(0, 0, 2, 6), bend < 0 ? 1 : ParcelMap.APART);
        }
    }

    private static void borderByAHair() {
        ParcelMap map = new ParcelMap();
        double down = Math.nextDown(4.0);
        Check.box(map, 0, 0, 0, 4, 4);
        Check.box(map, 0, 4, 4, 8, 8);
        Check.box(map, 0, 4, -4, 8, 0);
        Check.close(map, 0, 5, 4, down, 8, 0, 8, 4, 4, 4);
        CHECK.due("a corner", map.border(0, 1), 0);
        CHECK.due("a corner below", map.border(0, 2), 0);
        CHECK.due("a hair", map.border(0, 3), 1);
        CHECK.due("a hair, round", map.border(3, 0), 1);
        CHECK.due("a hair makes a neighbour", map.neighbour(0, 0), 3);
        CHECK.due("a corner makes none", map.neighbour(0, 1), ParcelMap.NONE);
        CHECK.due("a whole edge", map.border(3, 1), 1);
        map = new ParcelMap();
        Check.close(map, 0, 5, 0, 0, 3, 1, 0, 9);
        Check.close(map, 0, 5, 0, 0, 1.5, Math.nextDown(0.5), 3, 1, 9, 0);
        CHECK.due("a sliver between them", map.border(0, 1), 0);
        Check.close(map, 1, 5, 0, 0, 1.5, 0.5, 3, 1, 9, 0);
        CHECK.due("two parts of an edge", map.border(0, 2), 2);
    }

    private static void locateByTheLeastOfAll() {
        long n = 1L << 30;
        ParcelMap map = new ParcelMap();
        Check.close(map, 0, 5, unit(1 - n), unit(-n), unit(n), unit(n + 1), unit(-n), unit(2 * n));
        Check.close(map, 1, 5, unit(1 - n), unit(-n), unit(n), unit(n + 1), unit(n), unit(-2 * n));
        long zero = Check.bits(unit(0));
        CHECK.due("a hair inside", map.locate(0, zero, zero), 0);
        CHECK.due("a hair inside: edge", map.edge(), ParcelMap.NONE);
        CHECK.due("a hair outside", map.locate(1, zero, zero), ParcelMap.NONE);
        CHECK.due("inside of the other one", map.locate(1, zero, Check.bits(unit(-1))), 1);
        CHECK.due("outside of the first one", map.locate(0, zero, Check.bits(unit(-1))), ParcelMap.NONE);
        CHECK.due("its corner", map.locate(1, Check.bits(unit(n)), Check.bits(unit(n + 1))), 1);
        CHECK.holds("on an edge", map.edge() >= 0);
    }

    private static void walkByTheLeastOfAll() {
        long n = 1L << 30;
        ParcelMap map = new ParcelMap();
        Check.close(map, 0, 5, unit(1 - n), unit(-n), unit(n), unit(n + 1), unit(-n), unit(2 * n));
        int c = Check.corner(map, unit(0), unit(0));
        int low = Check.corner(map, unit(0), unit(-1));
        int far = Check.corner(map, unit(n), unit(-n));
        CHECK.due("it ends a hair inside", map.walk(0, far, c, 0), 0);
        CHECK.due("it ends a hair outside", map.walk(0, far, low, 0), ParcelMap.NONE);
        CHECK.due("it goes a hair in", map.walk(0, low, c, 0), 0);
    }

    /** The way from s to t goes by below the corner, by half of a unit, and just there is its middle. */
    private static void walkByHalfOfTheLeast() {
        long n = 1L << 40;
        ParcelMap map = new ParcelMap();
        Check.close(map, 0, 5, unit(0), unit(0), unit(n), unit(4 * n), unit(-n), unit(4 * n));
        Check.close(map, 1, 5, unit(0), unit(0), unit(n), unit(-4 * n), unit(-n), unit(-4 * n));
        Check.close(map, 2, 5, unit(0), unit(0), unit(4 * n), unit(n), unit(4 * n), unit(-n));
        Check.close(map, 3, 5, unit(0), unit(0), unit(-4 * n), unit(n), unit(-4 * n), unit(-n));
        int left = Check.corner(map, unit(-n), unit(-2));
        int right = Check.corner(map, unit(n), unit(1));
        CHECK.due("below it", map.walk(0, left, right, 0), ParcelMap.NONE);
        CHECK.due("through the one below", map.walk(1, left, right, 0), 1);
        left = Check.corner(map, unit(-n), unit(2));
        right = Check.corner(map, unit(n), unit(-1));
        CHECK.due("above the one below", map.walk(1, left, right, 0), ParcelMap.NONE);
        CHECK.due("through the one above", map.walk(0, left, right, 0), 0);
        int low = Check.corner(map, unit(-2), unit(-n));
        int high = Check.corner(map, unit(1), unit(n));
        CHECK.due("left of it", map.walk(2, low, high, 0), ParcelMap.NONE);
        CHECK.due("through the one at the left", map.walk(3, low, high, 0), 3);
    }

    private static void hullByTheLeastOfAll() {
        long n = 1L << 30;
        for (int bend = -1; bend <= 1; bend++) {
            ParcelMap map = new ParcelMap();
            Check.close(map, 0, 5, unit(0), unit(0), unit(n), unit(n + bend), unit(2 * n), unit(2 * n),
                    unit(0), unit(2 * n));
            CHECK.due("hull of a bend of " + bend, map.hull(0), bend < 0 ? 4 : 3);
            CHECK.due("its second corner", map.hullAt(1), bend < 0 ? 1 : 2);
        }
    }

    /** Twice a box of 2^k times 2^k, and of a hair less. */
    private static void twiceAtEachPower() {
        for (int k = -20; k <= 28; k++) {
            double size = Math.scalb(1.0, k);
            ParcelMap map = new ParcelMap();
            Check.box(map, 0, 0, 0, size, size);
            Check.box(map, 1, 0, 0, size, Math.nextDown(size) < 0x1p-20 ? size : Math.nextDown(size));
            long due = 2 * k + 1 < 0 ? 0 : 1L << 2 * k + 1;
            CHECK.due("twice the square of 2^" + k, map.twice(0), due);
            // A unit in the last place of less is 2^(k - 53), and twice that times 2^k is 2^(2 k - 52).
            long less = due == 0 ? 0 : 2 * k - 52 > 0 ? 1L << 2 * k - 52 : 1;
            CHECK.due("a hair less than 2^" + k, map.twice(1), due - less);
            CHECK.due("against one another, 2^" + k, map.compare(0, 1), k == -20 ? 0 : 1);
        }
    }

    private static void compareByTheLeastOfAll() {
        ParcelMap map = new ParcelMap();
        Check.close(map, 0, 5, unit(0), unit(0), unit(1), unit(0), unit(0), unit(1));
        Check.close(map, 1, 5, unit(0), unit(0), unit(2), unit(0), unit(0), unit(1));
        Check.close(map, 2, 5, unit(5), unit(5), unit(4), unit(5), unit(5), unit(4));
        Check.close(map, 3, 5, unit(0), unit(0), unit(1L << 40), unit(0), unit(0), unit(1L << 40));
        Check.close(map, 3, 5, unit(0), unit(0), unit(1L << 40), unit(0), unit((1L << 40) + 1), unit(-1L << 40));
        CHECK.due("1 and 2", map.compare(0, 1), -1);
        CHECK.due("2 and 1", map.compare(1, 0), 1);
        CHECK.due("1 and 1", map.compare(0, 2), 0);
        CHECK.due("like squares", map.compare(3, 4), 0);
        map.move(4, 0, Check.corner(map, unit(-1), unit(0)));
        CHECK.due("one moved by a unit", map.compare(3, 4), -1);
    }

    /** Of 2, areas of 1 and 2 of the least kind get 0.67 and 1.33. */
    private static void quotaByTheLeastOfAll() {
        ParcelMap map = new ParcelMap();
        Check.close(map, 0, 5, unit(0), unit(0), unit(1), unit(0), unit(0), unit(1));
        Check.close(map, 0, 5, unit(0), unit(0), unit(2), unit(-1), unit(2), unit(0), unit(1), unit(0));
        CHECK.due("1 against 2", map.compare(0, 1), -1);
        int[][] due = {{0, 0}, {0, 1}, {1, 1}, {1, 2}, {1, 3}, {2, 3}, {2, 4}};
        for (int n = 0; n < due.length; n++) {
            CHECK.due(n + " for the first", map.quota(0, n), due[n][0]);
            CHECK.due(n + " for the second", map.quota(1, n), due[n][1]);
        }
    }
}
