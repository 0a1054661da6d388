import java.math.BigDecimal;
import java.util.Random;

/** Promises 1 to 7: a new object, corner, at, side, sure, cross, nearest. */
final class CornersTest {
    private static final Check CHECK = new Check();

    public static void main(String[] args) {
        newObject();
        cornersAndTheirBits();
        limitsOfNumbers();
        twoHundredCorners();
        sides();
        sidesThatNoEstimateTells();
        sureAtItsVeryEdge();
        crossings();
        nearest();
        nearestByAHair();
        sidesAllButInLine();
        nearestAllButAsNear();
        CHECK.finish();
    }

    private static void newObject() {
        ParcelMap map = new ParcelMap();
        for (int what = 0; what < 8; what++) {
            CHECK.due("new: count " + what, map.count(what), 0);
        }
        CHECK.due("new: where", map.where(), 0);
        CHECK.due("new: sure", map.sure(), ParcelMap.NONE);
        CHECK.due("new: edge", map.edge(), ParcelMap.NONE);
        CHECK.due("new: hullAt", map.hullAt(0), ParcelMap.NONE);
        CHECK.due("new: undo", map.undo(), ParcelMap.STATE);
        CHECK.due("new: digest", map.digest(), 23);
        CHECK.due("new: nearest", map.nearest(0, 0), ParcelMap.NONE);
        CHECK.due("new: locate", map.locate(0, 0, 0), ParcelMap.NONE);
        CHECK.due("new: told", map.told(0, 0), ParcelMap.UNKNOWN);
        CHECK.due("new: close", map.close(0, 0), ParcelMap.FEW);
        CHECK.due("new: where of an empty ring", map.where(), 0);
        CHECK.due("new: add of no corner", map.add(0), ParcelMap.UNKNOWN);
        CHECK.due("new: draw", map.draw(), 0);
    }

    private static void cornersAndTheirBits() {
        ParcelMap map = new ParcelMap();
        CHECK.due("first", Check.corner(map, 1.5, -2), 0);
        CHECK.due("second", Check.corner(map, -2, 1.5), 1);
        CHECK.due("again", Check.corner(map, 1.5, -2), 0);
        CHECK.due("zero", Check.corner(map, 0.0, -0.0), 2);
        CHECK.due("zeros are one", Check.corner(map, -0.0, 0.0), 2);
        CHECK.due("x", map.at(0, 0), Check.bits(1.5));
        CHECK.due("y", map.at(0, 1), Check.bits(-2));
        CHECK.due("zero x", map.at(2, 0), 0);
        CHECK.due("zero y", map.at(2, 1), 0);
        CHECK.due("at of no corner", map.at(3, 0), ParcelMap.UNKNOWN);
        CHECK.due("at of no corner below", map.at(-1, 7), ParcelMap.UNKNOWN);
        CHECK.due("at of no axis", map.at(0, 2), ParcelMap.OUTSIDE);
        CHECK.due("at of no axis below", map.at(0, -1), ParcelMap.OUTSIDE);
        CHECK.due("count", map.count(0), 3);
    }

    private static void limitsOfNumbers() {
        double least = 0x1p-20;
        double greatest = 0x1p28;
        double[] good = {least, -least, greatest, -greatest, Math.nextUp(least), Math.nextDown(greatest)};
        double[] bad = {Math.nextDown(least), -Math.nextDown(least), Math.nextUp(greatest),
            -Math.nextUp(greatest), Double.MIN_VALUE, -Double.MIN_VALUE, Double.MAX_VALUE,
            Double.NaN, Double.POSITIVE_INFINITY, Double.NEGATIVE_INFINITY};
        ParcelMap map = new ParcelMap();
        for (double d : good) {
            int c = Check.corner(map, d, 0);
            CHECK.due("x of " + d, map.at(c, 0), Check.bits(d));
            c = Check.corner(map, 0, d);
            CHECK.due("y of " + d, map.at(c, 1), Check.bits(d));
        }
        for (double d : bad) {
            CHECK.due("corner of x " + d, Check.corner(map, d, 1), ParcelMap.OUTSIDE);
            CHECK.due("corner of y " + d, Check.corner(map, 1, d), ParcelMap.OUTSIDE);
            CHECK.due("nearest to x " + d, map.nearest(Check.bits(d), 0), ParcelMap.OUTSIDE);
            CHECK.due("nearest to y " + d, map.nearest(0, Check.bits(d)), ParcelMap.OUTSIDE);
            CHECK.due("locate x " + d, map.locate(0, Check.bits(d), 0), ParcelMap.OUTSIDE);
            CHECK.due("locate y " + d, map.locate(0, 0, Check.bits(d)), ParcelMap.OUTSIDE);
        }
        CHECK.due("negative NaN", map.corner(-1L, 0L), ParcelMap.OUTSIDE);
        CHECK.due("one bit", map.corner(1L, 0L), ParcelMap.OUTSIDE);
        CHECK.due("outside: nothing made", map.count(0), 12);
    }

    private static void twoHundredCorners() {
        ParcelMap map = new ParcelMap();
        for (int i = 0; i < 200; i++) {
            CHECK.due("corner " + i, Check.corner(map, i, 1), i);
        }
        CHECK.due("the 201st", Check.corner(map, 0, 2), ParcelMap.FULL);
        CHECK.due("one that is there", Check.corner(map, 199, 1), 199);
        CHECK.due("outside ahead of full", map.corner(1L, 1L), ParcelMap.OUTSIDE);
        CHECK.due("count", map.count(0), 200);
        CHECK.due("the last one", map.at(199, 0), Check.bits(199));
    }

    private static void sides() {
        ParcelMap map = new ParcelMap();
        int a = Check.corner(map, 0, 0);
        int b = Check.corner(map, 4, 0);
        int left = Check.corner(map, 1, 3);
        int right = Check.corner(map, 9, -1);
        int line = Check.corner(map, 7, 0);
        CHECK.due("left", map.side(a, b, left), 1);
        CHECK.due("left is sure", map.sure(), 1);
        CHECK.due("right", map.side(a, b, right), -1);
        CHECK.due("the other way round", map.side(b, a, right), 1);
        CHECK.due("in line", map.side(a, b, line), 0);
        CHECK.due("in line is not sure", map.sure(), 0);
        CHECK.due("unknown a", map.side(5, b, line), ParcelMap.UNKNOWN);
        CHECK.due("unknown b", map.side(a, -1, line), ParcelMap.UNKNOWN);
        CHECK.due("unknown c", map.side(a, b, 5), ParcelMap.UNKNOWN);
        CHECK.due("a refusal leaves sure", map.sure(), 0);
        CHECK.due("right again", map.side(a, b, right), -1);
        map.side(a, b, Integer.MIN_VALUE);
        CHECK.due("a refusal leaves sure 1", map.sure(), 1);
        map.cross(a, b, line, right);
        CHECK.due("cross leaves sure", map.sure(), 1);
        CHECK.due("a twice", map.side(a, a, left), 0);
        CHECK.due("a twice is not sure", map.sure(), 0);
    }

    private static void sidesThatNoEstimateTells() {
        ParcelMap map = new ParcelMap();
        double big = 0x1p28;
        int a = Check.corner(map, -big, -big);
        int b = Check.corner(map, big, big);
        int below = Check.corner(map, 0x1p-20, Math.nextDown(0x1.8p-20));
        int on = Check.corner(map, 0x1.8p-20, 0x1.8p-20);
        int up = Check.corner(map, 0x1.8p-20, Math.nextUp(0x1.8p-20));
        int down = Check.corner(map, Math.nextUp(0x1.8p-20), 0x1.8p-20);
        CHECK.due("above the diagonal", map.side(a, b, below), 1);
        CHECK.due("on the diagonal", map.side(a, b, on), 0);
        CHECK.due("a hair above", map.side(a, b, up), 1);
        CHECK.due("a hair above is not sure", map.sure(), 0);
        CHECK.due("a hair below", map.side(a, b, down), -1);
        CHECK.due("a hair below, round", map.side(b, a, down), 1);
        CHECK.due("a hair below is not sure", map.sure(), 0);
        int c = Check.corner(map, 0.1, 0.1);
        int d = Check.corner(map, 0.3, 0.3);
        int e = Check.corner(map, 0.7, Math.nextDown(0.7));
        CHECK.due("right of tenths", map.side(c, d, e), -1);
    }

    /** The bound is met exactly: e and f are 1 + 2^-50 and 1 - 2^-50 or near it. */
    private static void sureAtItsVeryEdge() {
        ParcelMap map = new ParcelMap();
        int zero = Check.corner(map, 0, 0);
        for (int step = -40; step <= 40; step++) {
            double x = 1 + step * 0x1p-52;
            int a = Check.corner(map, x, 1);
            int b = Check.corner(map, 1, 1);
            double e = x * 1;
            double f = 1;
            boolean sure = Math.abs(e - f) > (Math.abs(e) + Math.abs(f)) * 0x1p-50;
            CHECK.due("side " + step, map.side(a, b, zero), Integer.signum(step));
            CHECK.due("sure " + step, map.sure(), sure ? 1 : 0);
        }
    }

    private static void crossings() {
        ParcelMap map = new ParcelMap();
        int a = Check.corner(map, 0, 0);
        int b = Check.corner(map, 4, 4);
        int c = Check.corner(map, 0, 4);
        int d = Check.corner(map, 4, 0);
        int m = Check.corner(map, 2, 2);
        int far = Check.corner(map, 6, 6);
        int five = Check.corner(map, 5, 5);
        int off = Check.corner(map, 7, 5);
        CHECK.due("inside of both", map.cross(a, b, c, d), 1);
        CHECK.due("inside of both, round", map.cross(d, c, b, a), 1);
        CHECK.due("end inside", map.cross(a, b, m, c), 2);
        CHECK.due("inside of the second", map.cross(m, c, b, a), 2);
        CHECK.due("ends meet", map.cross(a, c, c, b), 2);
        CHECK.due("ends meet in line", map.cross(a, m, m, b), 2);
        CHECK.due("in line, apart", map.cross(a, m, five, far), 0);
        CHECK.due("in line, over", map.cross(a, b, m, far), 3);
        CHECK.due("one within the other", map.cross(a, far, b, m), 3);
        CHECK.due("the same", map.cross(a, b, a, b), 3);
        CHECK.due("the same, round", map.cross(a, b, b, a), 3);
        CHECK.due("same start in line", map.cross(a, m, a, b), 3);
        CHECK.due("apart", map.cross(a, c, m, d), 0);
        CHECK.due("line meets behind the end", map.cross(a, m, c, five), 0);
        CHECK.due("parallel", map.cross(a, d, c, b), 0);
        CHECK.due("apart aslant", map.cross(c, d, five, off), 0);
        CHECK.due("unknown", map.cross(a, b, c, 8), ParcelMap.UNKNOWN);
        CHECK.due("unknown first", map.cross(-1, -1, c, d), ParcelMap.UNKNOWN);
        CHECK.due("unknown ahead of outside", map.cross(a, a, c, 99), ParcelMap.UNKNOWN);
        CHECK.due("a is b", map.cross(a, a, c, d), ParcelMap.OUTSIDE);
        CHECK.due("c is d", map.cross(a, b, d, d), ParcelMap.OUTSIDE);
        int up = Check.corner(map, Math.nextUp(2.0), 2);
        int down = Check.corner(map, 5, 1);
        CHECK.due("ends a hair short", map.cross(a, b, up, down), 0);
        int by = Check.corner(map, 2, Math.nextUp(2.0));
        CHECK.due("ends a hair beyond", map.cross(a, b, by, down), 1);
    }

    private static void nearest() {
        ParcelMap map = new ParcelMap();
        Check.corner(map, 3, 0);
        Check.corner(map, -3, 0);
        Check.corner(map, 0, 3);
        Check.corner(map, 0, 1);
        CHECK.due("nearest", map.nearest(0, 0), 3);
        CHECK.due("nearest right", map.nearest(Check.bits(2), 0), 0);
        CHECK.due("of like ones the least", map.nearest(0, Check.bits(-4)), 0);
        CHECK.due("a point that is one", map.nearest(Check.bits(-3), Long.MIN_VALUE), 1);
        CHECK.due("between two", map.nearest(0, Check.bits(2)), 2);
    }

    private static void nearestByAHair() {
        ParcelMap map = new ParcelMap();
        double far = 0x1p27;
        Check.corner(map, far, far);
        Check.corner(map, far, Math.nextDown(far));
        Check.corner(map, -far, Math.nextDown(far));
        CHECK.due("less by a unit", map.nearest(0, 0), 1);
        CHECK.due("less by a unit and a hair", map.nearest(Check.bits(-0x1p-20), 0), 2);
        CHECK.due("more by a hair", map.nearest(Check.bits(0x1p-20), 0), 1);
        map = new ParcelMap();
        Check.corner(map, 5, 0);
        Check.corner(map, 3, Math.nextDown(4));
        Check.corner(map, -4, 3);
        CHECK.due("3 4 5", map.nearest(0, 0), 1);
    }

    private static BigDecimal gap(double a, double b) {
        return new BigDecimal(a).subtract(new BigDecimal(b));
    }

    private static double any(Random random, int power) {
        double d = (random.nextDouble() - 0.5) * Math.scalb(1.0, power);
        return Math.abs(d) < 0x1p-20 ? 0 : d;
    }

    private static void sidesAllButInLine() {
        Random random = new Random(5);
        int unsure = 0;
        for (int i = 0; i < 4000; i++) {
            int power = random.nextInt(40) - 12;
            double ax = any(random, power);
            double ay = any(random, power);
            double bx = any(random, power);
            double by = any(random, random.nextInt(40) - 12);
            double t = random.nextDouble() * 0.9;
            double cx = ax + t * (bx - ax);
            double cy = ay + t * (by - ay);
            ParcelMap map = new ParcelMap();
            int a = Check.corner(map, ax, ay);
            int b = Check.corner(map, bx, by);
            int c = Check.corner(map, cx, cy);
            if (a < 0 || b < 0 || c < 0) {
                continue;
            }
            int due = gap(ax, cx).multiply(gap(by, cy))
                    .subtract(gap(ay, cy).multiply(gap(bx, cx))).signum();
            CHECK.due("side of random corners " + i, map.side(a, b, c), due);
            unsure += 1 - map.sure();
        }
        CHECK.holds("many a side was not sure", unsure > 1000);
    }

    private static void nearestAllButAsNear() {
        Random random = new Random(6);
        int misled = 0;
        for (int i = 0; i < 4000; i++) {
            double x = 1 + random.nextDouble();
            double y = 1 + random.nextDouble();
            int steps = random.nextInt(60);
            // About as far as (x, y): what one number gains, the other one loses.
            double[] b = {y + steps * 0x1p-52, x - Math.round(steps * y / x) * 0x1p-52};
            ParcelMap map = new ParcelMap();
            Check.corner(map, x, y);
            Check.corner(map, b[0], b[1]);
            BigDecimal farA = gap(x, 0).pow(2).add(gap(y, 0).pow(2));
            BigDecimal farB = gap(b[0], 0).pow(2).add(gap(b[1], 0).pow(2));
            int due = farB.compareTo(farA) < 0 ? 1 : 0;
            CHECK.due("nearest of two, " + i, map.nearest(0, 0), due);
            double quickA = x * x + y * y;
            double quickB = b[0] * b[0] + b[1] * b[1];
            misled += due == 1 && quickB > quickA || due == 0 && quickB < quickA ? 1 : 0;
        }
        CHECK.holds("many a distance in doubles would mislead", misled > 20);
    }
}
