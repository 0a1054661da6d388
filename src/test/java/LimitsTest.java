/**
 * The limits that stand in the document: of each the last one that is taken and the first one that is
 * not, on both sides where there are two.
 */
final class LimitsTest {
    private static final Check CHECK = new Check();
    private static final double LEAST = 0x1p-20;
    private static final double GREATEST = 0x1p28;

    public static void main(String[] args) {
        sizesThatAreNumbers();
        sizesThatAreNone();
        bitsThatAreNone();
        zeroOfBothSigns();
        cornersAreTheSameByBothNumbers();
        sidesAtTheLimits();
        crossingsAtTheLimits();
        nearestAtTheLimits();
        ringsAtTheLimits();
        axes();
        estimateAtItsBound();
        estimateStepByStep();
        aheadByX();
        aheadByY();
        whatIsTold();
        layers();
        owners();
        placesOfASplit();
        placesOfAMove();
        sharesOfAQuota();
        whatIsCounted();
        numbersOfNeighboursAndWalks();
        cornersOfAHull();
        theLast512thCall();
        CHECK.finish();
    }

    private static final double[] TAKEN = {0.0, LEAST, Math.nextUp(LEAST), 1, Math.nextDown(GREATEST), GREATEST};
    private static final double[] REFUSED = {Math.nextDown(LEAST), 0x1p-21, Double.MIN_NORMAL, Double.MIN_VALUE,
        Math.nextUp(GREATEST), 0x1p29, Double.MAX_VALUE, Double.POSITIVE_INFINITY, Double.NaN};

    /** "Each 0 (-0.0 is 0.0 here), or of a size of 2^-20 to 2^28": x and y, above and below 0. */
    private static void sizesThatAreNumbers() {
        ParcelMap map = new ParcelMap();
        for (double size : TAKEN) {
            for (double d : new double[] {size, -size}) {
                long due = Check.bits(d == 0 ? 0.0 : d);
                int c = Check.corner(map, d, 3);
                CHECK.due("x of " + d, map.at(c, 0), due);
                CHECK.due("y beside it", map.at(c, 1), Check.bits(3));
                CHECK.due("nearest to x " + d, map.nearest(Check.bits(d), Check.bits(3)), c);
                CHECK.due("locate x " + d, map.locate(0, Check.bits(d), Check.bits(3)), ParcelMap.NONE);
                c = Check.corner(map, 3, d);
                CHECK.due("y of " + d, map.at(c, 1), due);
                CHECK.due("x beside it", map.at(c, 0), Check.bits(3));
                CHECK.due("nearest to y " + d, map.nearest(Check.bits(3), Check.bits(d)), c);
                CHECK.due("locate y " + d, map.locate(0, Check.bits(3), Check.bits(d)), ParcelMap.NONE);
            }
        }
        CHECK.due("all of them made", map.count(0), 22);
    }

    private static void sizesThatAreNone() {
        ParcelMap map = new ParcelMap();
        for (double size : REFUSED) {
            for (double d : new double[] {size, -size}) {
                long no = Check.bits(d);
                long good = Check.bits(3);
                CHECK.due("corner of x " + d, map.corner(no, good), ParcelMap.OUTSIDE);
                CHECK.due("corner of y " + d, map.corner(good, no), ParcelMap.OUTSIDE);
                CHECK.due("corner of both " + d, map.corner(no, no), ParcelMap.OUTSIDE);
                CHECK.due("nearest to x " + d, map.nearest(no, good), ParcelMap.OUTSIDE);
                CHECK.due("nearest to y " + d, map.nearest(good, no), ParcelMap.OUTSIDE);
                CHECK.due("locate x " + d, map.locate(0, no, good), ParcelMap.OUTSIDE);
                CHECK.due("locate y " + d, map.locate(0, good, no), ParcelMap.OUTSIDE);
            }
        }
        CHECK.due("none of them made", map.count(0), 0);
    }

    /** Bits that no reckoning gives: NaNs of all sorts, and what is next to zero and to infinity. */
    private static void bitsThatAreNone() {
        ParcelMap map = new ParcelMap();
        long infinity = Check.bits(Double.POSITIVE_INFINITY);
        long[] none = {1, Long.MIN_VALUE + 1, infinity, infinity + 1, infinity - 1, Long.MAX_VALUE, -1,
            infinity | Long.MIN_VALUE, infinity + 1 | Long.MIN_VALUE, Check.bits(LEAST) - 1,
            Check.bits(-LEAST) - 1, Check.bits(GREATEST) + 1, Check.bits(-GREATEST) + 1};
        for (long bits : none) {
            CHECK.due("corner of x bits " + bits, map.corner(bits, 0), ParcelMap.OUTSIDE);
            CHECK.due("corner of y bits " + bits, map.corner(0, bits), ParcelMap.OUTSIDE);
        }
        long[] some = {0, Long.MIN_VALUE, Check.bits(LEAST), Check.bits(-LEAST), Check.bits(GREATEST),
            Check.bits(-GREATEST)};
        for (long bits : some) {
            CHECK.holds("corner of x bits " + bits, map.corner(bits, 0) >= 0);
            CHECK.holds("corner of y bits " + bits, map.corner(0, bits) >= 0);
        }
    }

    /** "-0.0 is 0.0 here"; "of 0: those of 0.0". */
    private static void zeroOfBothSigns() {
        ParcelMap map = new ParcelMap();
        CHECK.due("-0.0 -0.0", Check.corner(map, -0.0, -0.0), 0);
        CHECK.due("0.0 0.0", Check.corner(map, 0.0, 0.0), 0);
        CHECK.due("0.0 -0.0", Check.corner(map, 0.0, -0.0), 0);
        CHECK.due("-0.0 0.0", Check.corner(map, -0.0, 0.0), 0);
        CHECK.due("-0.0 1", Check.corner(map, -0.0, 1), 1);
        CHECK.due("0.0 1", Check.corner(map, 0.0, 1), 1);
        CHECK.due("1 -0.0", Check.corner(map, 1, -0.0), 2);
        CHECK.due("three of them", map.count(0), 3);
        CHECK.due("x of -0.0", map.at(0, 0), 0);
        CHECK.due("y of -0.0", map.at(0, 1), 0);
        CHECK.due("x of -0.0, 1", map.at(1, 0), 0);
        CHECK.due("y of 1, -0.0", map.at(2, 1), 0);
        CHECK.due("nearest to -0.0", map.nearest(Long.MIN_VALUE, Long.MIN_VALUE), 0);
        Scenes.closeOf(map, 0, 5, 0, 1, 2);
        CHECK.due("locate -0.0", map.locate(0, Long.MIN_VALUE, Long.MIN_VALUE), 0);
        CHECK.due("locate -0.0: edge", map.edge(), 0);
    }

    /** "The one there is, if there is one": both numbers are the same then, to the last bit. */
    private static void cornersAreTheSameByBothNumbers() {
        ParcelMap map = new ParcelMap();
        CHECK.due("first", Check.corner(map, 1, 2), 0);
        CHECK.due("another y", Check.corner(map, 1, 3), 1);
        CHECK.due("another x", Check.corner(map, 3, 2), 2);
        CHECK.due("round", Check.corner(map, 2, 1), 3);
        CHECK.due("a hair right", Check.corner(map, Math.nextUp(1), 2), 4);
        CHECK.due("a hair below", Check.corner(map, 1, Math.nextDown(2)), 5);
        CHECK.due("below 0", Check.corner(map, -1, 2), 6);
        CHECK.due("below 0, y", Check.corner(map, 1, -2), 7);
        CHECK.due("the first one again", Check.corner(map, 1, 2), 0);
        CHECK.due("the last one again", Check.corner(map, 1, -2), 7);
    }

    private static void sidesAtTheLimits() {
        ParcelMap map = new ParcelMap();
        int low = Check.corner(map, -GREATEST, -GREATEST);
        int high = Check.corner(map, GREATEST, GREATEST);
        int zero = Check.corner(map, 0, 0);
        int least = Check.corner(map, LEAST, LEAST);
        int up = Check.corner(map, LEAST, Math.nextUp(LEAST));
        int right = Check.corner(map, Math.nextUp(LEAST), LEAST);
        int highUp = Check.corner(map, Math.nextDown(GREATEST), GREATEST);
        CHECK.due("0 in line", map.side(low, high, zero), 0);
        CHECK.due("the least in line", map.side(low, high, least), 0);
        CHECK.due("the least, a hair up", map.side(low, high, up), 1);
        CHECK.due("the least, a hair right", map.side(low, high, right), -1);
        CHECK.due("the greatest, a hair up", map.side(low, high, highUp), 1);
        CHECK.due("from 0 to the least", map.side(zero, least, high), 0);
        CHECK.due("from 0 to a hair up", map.side(zero, up, high), -1);
        CHECK.due("from 0 to a hair right", map.side(zero, right, high), 1);
        CHECK.due("among the least ones", map.side(least, right, up), 1);
        CHECK.due("among the least ones, round", map.side(least, up, right), -1);
    }

    private static void crossingsAtTheLimits() {
        ParcelMap map = new ParcelMap();
        int a = Check.corner(map, -GREATEST, -GREATEST);
        int b = Check.corner(map, GREATEST, GREATEST);
        int c = Check.corner(map, LEAST, LEAST);
        int up = Check.corner(map, LEAST, Math.nextUp(LEAST));
        int right = Check.corner(map, Math.nextUp(LEAST), LEAST);
        int far = Check.corner(map, -GREATEST, GREATEST);
        CHECK.due("it ends on the other one", map.cross(a, b, c, far), 2);
        CHECK.due("it ends a hair short", map.cross(a, b, up, far), 0);
        CHECK.due("it goes a hair through", map.cross(a, b, right, far), 1);
        CHECK.due("across the least square", map.cross(a, b, up, right), 1);
        CHECK.due("along the diagonal", map.cross(a, b, c, b), 3);
        CHECK.due("along, from a hair up", map.cross(a, b, up, b), 2);
    }

    private static void nearestAtTheLimits() {
        ParcelMap map = new ParcelMap();
        Check.corner(map, GREATEST, GREATEST);
        Check.corner(map, -GREATEST, -GREATEST);
        Check.corner(map, GREATEST, -GREATEST);
        CHECK.due("of those as near the least number", map.nearest(0, 0), 0);
        CHECK.due("a hair nearer to 1", map.nearest(Check.bits(-LEAST), Check.bits(-LEAST)), 1);
        CHECK.due("as near to 1 and 0", map.nearest(Check.bits(LEAST), Check.bits(-LEAST)), 2);
        CHECK.due("as near to 0 and 2", map.nearest(Check.bits(LEAST), 0), 0);
        CHECK.due("as near to 1 and 2", map.nearest(0, Check.bits(-LEAST)), 1);
        CHECK.due("the farthest", map.nearest(Check.bits(-GREATEST), Check.bits(GREATEST)), 0);
    }

    private static void ringsAtTheLimits() {
        ParcelMap map = new ParcelMap();
        CHECK.due("the greatest", Check.box(map, 0, -GREATEST, -GREATEST, GREATEST, GREATEST), 0);
        double hair = Math.nextUp(LEAST);
        CHECK.due("the least", Check.close(map, 1, 5, LEAST, LEAST, hair, LEAST, LEAST, hair), 1);
        CHECK.due("the least beside it", Check.close(map, 1, 5, hair, LEAST, hair, hair, LEAST, hair), 2);
        CHECK.due("the least is over the greatest", Check.close(map, 0, 5, LEAST, LEAST, hair, LEAST, LEAST, hair),
                ParcelMap.OVER);
        CHECK.due("twice the greatest", map.twice(0), 1L << 59);
        CHECK.due("twice the least", map.twice(1), 0);
        CHECK.due("the least against the greatest", map.compare(1, 0), -1);
        CHECK.due("the least ones", map.compare(1, 2), 0);
        CHECK.due("the least ones' border", map.border(1, 2), 1);
        CHECK.due("locate the least", map.locate(1, Check.bits(LEAST), Check.bits(LEAST)), 1);
        CHECK.due("locate the greatest", map.locate(0, Check.bits(GREATEST), Check.bits(GREATEST)), 0);
        CHECK.due("locate the greatest: edge", map.edge(), 1);
    }

    /** "The x (axis 0), the y (1)". */
    private static void axes() {
        ParcelMap map = new ParcelMap();
        Check.corner(map, 5, 6);
        CHECK.due("axis -1", map.at(0, -1), ParcelMap.OUTSIDE);
        CHECK.due("axis 0", map.at(0, 0), Check.bits(5));
        CHECK.due("axis 1", map.at(0, 1), Check.bits(6));
        CHECK.due("axis 2", map.at(0, 2), ParcelMap.OUTSIDE);
    }

    /** "SURE, if the size of e - f is above" the bound: 1 + 2^-50 and 1 - 2^-50 are just at it. */
    private static void estimateAtItsBound() {
        ParcelMap map = new ParcelMap();
        double e = 1 + 0x1p-50;
        double f = 1 - 0x1p-50;
        int c = Check.corner(map, 0, 0);
        int b = Check.corner(map, 1, 1);
        int at = Check.corner(map, e, f);
        int above = Check.corner(map, Math.nextUp(e), f);
        int below = Check.corner(map, Math.nextDown(e), f);
        CHECK.due("at the bound", map.side(at, b, c), 1);
        CHECK.due("at the bound is not sure", map.sure(), 0);
        CHECK.due("above the bound", map.side(above, b, c), 1);
        CHECK.due("above the bound is sure", map.sure(), 1);
        CHECK.due("below the bound", map.side(below, b, c), 1);
        CHECK.due("below the bound is not sure", map.sure(), 0);
        int atRight = Check.corner(map, f, e);
        int aboveRight = Check.corner(map, f, Math.nextUp(e));
        CHECK.due("at the bound, right", map.side(atRight, b, c), -1);
        CHECK.due("at the bound, right, is not sure", map.sure(), 0);
        CHECK.due("above the bound, right", map.side(aboveRight, b, c), -1);
        CHECK.due("above the bound, right, is sure", map.sure(), 1);
        CHECK.due("0 is not above 0", map.side(c, c, c), 0);
        CHECK.due("0 is not sure", map.sure(), 0);
        int other = Check.corner(map, 1, -1);
        CHECK.due("e and f of different signs", map.side(b, other, c), -1);
        CHECK.due("different signs are sure", map.sure(), 1);
    }

    /** The differences and products are rounded one by one, as doubles are. */
    private static void estimateStepByStep() {
        ParcelMap map = new ParcelMap();
        double[] at = {0.1, 0.3, 0.7, 1, Math.nextUp(1), 1 + 0x1p-50, 3, -0.1, -7, 0x1p28, LEAST, 1.0 / 3, 0};
        int n = at.length;
        for (double x : at) {
            Check.corner(map, x, x + 0x1p-51 >= LEAST ? x + 0x1p-51 : x);
        }
        for (int a = 0; a < 7; a++) {
            for (int b = 7; b < n; b++) {
                int c = (a * 5 + b * 3) % n;
                double[] p = {real(map, a, 0) - real(map, c, 0), real(map, b, 1) - real(map, c, 1),
                    real(map, a, 1) - real(map, c, 1), real(map, b, 0) - real(map, c, 0)};
                double e = p[0] * p[1];
                double f = p[2] * p[3];
                boolean sure = Math.abs(e - f) > (Math.abs(e) + Math.abs(f)) * 0x1p-50;
                map.side(a, b, c);
                CHECK.due("sure of " + a + " " + b + " " + c, map.sure(), sure ? 1 : 0);
            }
        }
    }

    private static double real(ParcelMap map, int c, int axis) {
        return Double.longBitsToDouble(map.at(c, axis));
    }

    /** "A comes AHEAD of B, if its x is less". */
    private static void aheadByX() {
        ParcelMap map = new ParcelMap();
        double hair = Math.nextDown(-1.0);
        Check.close(map, 0, 5, -1, -9, 5, 0, hair, 9);
        CHECK.ringDue("the lesser x, by a hair", map, 0, hair, 9, -1, -9, 5, 0);
    }

    /** ".. or x is the same, and its y less". */
    private static void aheadByY() {
        ParcelMap map = new ParcelMap();
        Check.close(map, 0, 5, 1, Math.nextUp(2.0), 1, 2, 5, 2);
        CHECK.ringDue("the lesser y, by a hair", map, 0, 1, 2, 5, 2, 1, Math.nextUp(2.0));
        Check.close(map, 1, 5, 0, 3, -0.0, -3, 5, 2);
        CHECK.ringDue("0 and -0 are the same x", map, 1, 0, -3, 5, 2, 0, 3);
        CHECK.due("hull", map.hull(1), 3);
        CHECK.due("the hull's first one", map.hullAt(0), map.told(1, 3));
    }

    private static double[] bow(int n) {
        double[] xy = new double[2 * n];
        for (int i = 0; i < n; i++) {
            xy[2 * i] = i;
            xy[2 * i + 1] = i * i;
        }
        return xy;
    }

    /** "3 + i its CORNER i (NONE: there is none)"; "OUTSIDE: what is not 0 to 14". */
    private static void whatIsTold() {
        ParcelMap map = new ParcelMap();
        Check.close(map, 0, 5, bow(12));
        Check.close(map, 1, 5, bow(11));
        Check.close(map, 2, 5, bow(3));
        for (int i = 0; i < 12; i++) {
            CHECK.due("corner " + i + " of 12", map.told(0, 3 + i), i);
            CHECK.due("corner " + i + " of 11", map.told(1, 3 + i), i < 11 ? i : ParcelMap.NONE);
            CHECK.due("corner " + i + " of 3", map.told(2, 3 + i), i < 3 ? i : ParcelMap.NONE);
        }
        CHECK.due("what -1", map.told(0, -1), ParcelMap.OUTSIDE);
        CHECK.due("what 0", map.told(0, 0), 0);
        CHECK.due("what 15", map.told(0, 15), ParcelMap.OUTSIDE);
        CHECK.due("parcel -1", map.told(-1, 0), ParcelMap.UNKNOWN);
        CHECK.due("parcel 2", map.told(2, 0), 2);
        CHECK.due("parcel 3", map.told(3, 0), ParcelMap.UNKNOWN);
    }

    /** "LAYERS 0 to 3". */
    private static void layers() {
        ParcelMap map = new ParcelMap();
        int c = Check.corner(map, 1, 1);
        int d = Check.corner(map, 9, 9);
        for (int layer = -1; layer <= 4; layer++) {
            boolean none = layer < 0 || layer > 3;
            Check.draw(map, 0, 0, 4, 0, 4, 4);
            CHECK.due("close on " + layer, map.close(layer, 5), none ? ParcelMap.OUTSIDE : layer);
            CHECK.due("locate on " + layer, map.locate(layer, Check.bits(3), Check.bits(1)),
                    none ? ParcelMap.OUTSIDE : layer);
            CHECK.due("walk on " + layer, map.walk(layer, 0, map.corner(Check.bits(4), Check.bits(1)), 0),
                    none ? ParcelMap.OUTSIDE : layer);
            CHECK.due("hull of " + layer, map.hull(layer), none ? ParcelMap.OUTSIDE : 3);
        }
        CHECK.due("corners", map.walk(0, c, d, 0), ParcelMap.NONE);
    }

    /** "An OWNER (an int)": any int. */
    private static void owners() {
        int[] owners = {Integer.MIN_VALUE, Integer.MAX_VALUE, 0, -1, ParcelMap.UNKNOWN, ParcelMap.OVER};
        for (int owner : owners) {
            ParcelMap map = new ParcelMap();
            CHECK.due("close for " + owner, Check.close(map, 0, owner, 0, 0, 4, 0, 4, 4, 0, 4), 0);
            CHECK.due("split for " + owner, map.split(0, 0, 2, owner), 1);
            CHECK.due("owner " + owner, map.told(0, 1), owner);
            CHECK.due("owner " + owner + " of the split", map.told(1, 1), owner);
            CHECK.due("give from " + owner, map.give(0, 3), owner);
            CHECK.due("give to " + owner, map.give(0, owner), 3);
            CHECK.due("owner " + owner + " again", map.told(0, 1), owner);
        }
    }

    /** "OUTSIDE: i is not below j, or they are no places; APART: they follow one another". */
    private static void placesOfASplit() {
        for (int i = -1; i <= 5; i++) {
            for (int j = -1; j <= 6; j++) {
                ParcelMap map = new ParcelMap();
                Check.close(map, 0, 5, bow(5));
                boolean outside = i < 0 || j > 4 || i >= j;
                boolean follow = j == i + 1 || i == 0 && j == 4;
                int due = outside ? ParcelMap.OUTSIDE : follow ? ParcelMap.APART : 1;
                CHECK.due("split between " + i + " and " + j, map.split(0, i, j, 6), due);
                CHECK.due("corners kept, " + i + " " + j, map.told(0, 2), due == 1 ? 5 - (j - i - 1) : 5);
                CHECK.due("corners cut off, " + i + " " + j, map.told(1, 2), due == 1 ? j - i + 1 : ParcelMap.UNKNOWN);
            }
        }
    }

    private static void placesOfAMove() {
        ParcelMap map = new ParcelMap();
        Check.close(map, 0, 5, bow(12));
        int c = Check.corner(map, 12, 144);
        CHECK.due("place -1", map.move(0, -1, c), ParcelMap.OUTSIDE);
        CHECK.due("place 12", map.move(0, 12, c), ParcelMap.OUTSIDE);
        CHECK.due("place 11", map.move(0, 11, c), 11);
        CHECK.due("place 0", map.move(0, 0, Check.corner(map, -1, 1)), 0);
        CHECK.due("the last one", map.told(0, 14), c);
    }

    /** "OUTSIDE: n is not 0 to 1000". */
    private static void sharesOfAQuota() {
        ParcelMap map = new ParcelMap();
        Check.box(map, 0, 0, 0, 1, 1);
        CHECK.due("-1", map.quota(0, -1), ParcelMap.OUTSIDE);
        for (int n = 0; n <= 1000; n += n < 20 || n > 970 ? 1 : 50) {
            CHECK.due("all of " + n, map.quota(0, n), n);
        }
        CHECK.due("1000", map.quota(0, 1000), 1000);
        CHECK.due("1001", map.quota(0, 1001), ParcelMap.OUTSIDE);
    }

    /** "0 CORNERS .. 4 to 7 PARCELS of LAYERS 0 to 3". */
    private static void whatIsCounted() {
        ParcelMap map = Scenes.busy();
        int[] due = {Scenes.CORNERS, 3, Scenes.PARCELS, 2, 2, 1, 0, 0};
        CHECK.due("count -1", map.count(-1), ParcelMap.OUTSIDE);
        for (int what = 0; what < 8; what++) {
            CHECK.due("count " + what, map.count(what), due[what]);
        }
        CHECK.due("count 8", map.count(8), ParcelMap.OUTSIDE);
    }

    /** "The k-th (from 0) .. by numbers; NONE". */
    private static void numbersOfNeighboursAndWalks() {
        ParcelMap map = new ParcelMap();
        Check.box(map, 0, 0, 0, 1, 1);
        Check.box(map, 0, 2, 0, 3, 1);
        Check.box(map, 0, 1, 0, 2, 1);
        int a = Check.corner(map, 0, 0.5);
        int b = Check.corner(map, 3, 0.5);
        int[] ks = {Integer.MIN_VALUE, -1, 0, 1, 2, 3, Integer.MAX_VALUE};
        int[] neighbours = {-1, -1, 0, 1, -1, -1, -1};
        int[] walks = {-1, -1, 0, 1, 2, -1, -1};
        for (int i = 0; i < ks.length; i++) {
            CHECK.due("neighbour " + ks[i], map.neighbour(2, ks[i]), neighbours[i]);
            CHECK.due("walk " + ks[i], map.walk(0, a, b, ks[i]), walks[i]);
            CHECK.due("walk back " + ks[i], map.walk(0, b, a, ks[i]), walks[i]);
        }
    }

    private static void cornersOfAHull() {
        ParcelMap map = new ParcelMap();
        Check.close(map, 0, 5, bow(12));
        CHECK.due("hull", map.hull(0), 12);
        int[] ks = {Integer.MIN_VALUE, -1, 12, 13, Integer.MAX_VALUE};
        for (int k : ks) {
            CHECK.due("hullAt " + k, map.hullAt(k), ParcelMap.NONE);
        }
        for (int k = 0; k < 12; k++) {
            CHECK.due("hullAt " + k, map.hullAt(k), k);
        }
    }

    /** "An object is used for at most 512 calls": the last one is answered as the first one is. */
    private static void theLast512thCall() {
        ParcelMap map = new ParcelMap();
        // Ten calls: draw(), four times corner() and add(), close().
        Check.box(map, 0, 0, 0, 4, 4);
        for (int calls = 11; calls < 510; calls++) {
            CHECK.due("call " + calls, map.give(0, calls), calls == 11 ? 1 : calls - 1);
        }
        CHECK.due("call 510", map.give(0, 1), 509);
        CHECK.due("call 511", map.undo(), 1);
        CHECK.due("call 512", map.told(0, 1), 509);
    }
}
