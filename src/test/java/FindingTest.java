/** Promises 20 to 24: locate, edge, walk, hull, hullAt. */
final class FindingTest {
    private static final Check CHECK = new Check();
    private static final double[] SLOT = {0, 0, 6, 0, 6, 6, 4, 6, 4, 2, 2, 2, 2, 6, 0, 6};

    public static void main(String[] args) {
        locate();
        locateByAHair();
        edge();
        walk();
        walkAlongAndThroughCorners();
        hull();
        hullByAHair();
        CHECK.finish();
    }

    private static int locate(ParcelMap map, int layer, double x, double y) {
        return map.locate(layer, Check.bits(x), Check.bits(y));
    }

    private static void locate() {
        ParcelMap map = new ParcelMap();
        Check.box(map, 0, 4, 0, 8, 4);
        Check.box(map, 0, 0, 0, 4, 4);
        Check.close(map, 1, 0, SLOT);
        CHECK.due("inside", locate(map, 0, 1, 1), 1);
        CHECK.due("inside of the first", locate(map, 0, 5, 1), 0);
        CHECK.due("on the edge of both", locate(map, 0, 4, 1), 0);
        CHECK.due("on the corner of both", locate(map, 0, 4, 4), 0);
        CHECK.due("outside of all", locate(map, 0, 9, 0), ParcelMap.NONE);
        CHECK.due("level with edges", locate(map, 0, -1, 4), ParcelMap.NONE);
        CHECK.due("level with the lower edges", locate(map, 0, 9, -0.0), ParcelMap.NONE);
        CHECK.due("in the slot", locate(map, 1, 3, 5), ParcelMap.NONE);
        CHECK.due("level with the slot", locate(map, 1, 1, 2), 2);
        CHECK.due("level with the slot, right", locate(map, 1, 5, 2), 2);
        CHECK.due("on the slot's ground", locate(map, 1, 3, 2), 2);
        CHECK.due("below the slot", locate(map, 1, 3, 1), 2);
        CHECK.due("empty layer", locate(map, 2, 1, 1), ParcelMap.NONE);
        CHECK.due("no layer", locate(map, 4, 1, 1), ParcelMap.OUTSIDE);
        CHECK.due("no layer below", locate(map, -1, 1, 1), ParcelMap.OUTSIDE);
        CHECK.due("no number", locate(map, 0, Double.NaN, 1), ParcelMap.OUTSIDE);
        CHECK.due("no number y", locate(map, 0, 1, 0x1p-21), ParcelMap.OUTSIDE);
        map.drop(0);
        CHECK.due("one is gone", locate(map, 0, 4, 1), 1);
    }

    private static void locateByAHair() {
        ParcelMap map = new ParcelMap();
        Check.close(map, 0, 0, 0, 0, 3, 1, 0, 9);
        CHECK.due("on a slant", locate(map, 0, 1.5, 0.5), 0);
        CHECK.due("on a slant: edge", map.edge(), 0);
        CHECK.due("a hair above", locate(map, 0, 1.5, Math.nextUp(0.5)), 0);
        CHECK.due("a hair above: edge", map.edge(), ParcelMap.NONE);
        CHECK.due("a hair below", locate(map, 0, 1.5, Math.nextDown(0.5)), ParcelMap.NONE);
        double third = 1.0 / 3;
        CHECK.due("below a third", locate(map, 0, 1, third), ParcelMap.NONE);
        CHECK.due("above a third", locate(map, 0, 1, Math.nextUp(third)), 0);
    }

    private static void edge() {
        ParcelMap map = new ParcelMap();
        Check.box(map, 0, 0, 0, 4, 4);
        Check.box(map, 0, 4, 0, 8, 4);
        locate(map, 0, 2, 0);
        CHECK.due("edge 0", map.edge(), 0);
        locate(map, 0, 4, 2);
        CHECK.due("edge 1", map.edge(), 1);
        locate(map, 0, 0, 2);
        CHECK.due("edge 3", map.edge(), 3);
        locate(map, 0, 0, 0);
        CHECK.due("corner 0", map.edge(), 0);
        locate(map, 0, 4, 4);
        CHECK.due("corner 2", map.edge(), 1);
        locate(map, 0, 0, 4);
        CHECK.due("corner 3", map.edge(), 2);
        locate(map, 0, 4, 9);
        CHECK.due("none found", map.edge(), ParcelMap.NONE);
        locate(map, 0, 8, 4);
        CHECK.due("of the second", map.edge(), 1);
        locate(map, 7, 1, 1);
        CHECK.due("a refusal leaves it", map.edge(), 1);
        map.drop(1);
        CHECK.due("it stays as found", map.edge(), 1);
        locate(map, 0, 1, 1);
        CHECK.due("inside", map.edge(), ParcelMap.NONE);
    }

    private static void walk() {
        ParcelMap map = new ParcelMap();
        Check.box(map, 0, 8, 0, 12, 4);
        Check.box(map, 0, 0, 0, 4, 4);
        Check.box(map, 0, 4, 0, 8, 4);
        Check.box(map, 1, 0, 0, 4, 4);
        int a = Check.corner(map, 1, 1);
        int b = Check.corner(map, 11, 3);
        CHECK.due("first", map.walk(0, a, b, 0), 0);
        CHECK.due("second", map.walk(0, a, b, 1), 1);
        CHECK.due("third", map.walk(0, b, a, 2), 2);
        CHECK.due("no more", map.walk(0, a, b, 3), ParcelMap.NONE);
        CHECK.due("none below", map.walk(0, a, b, -1), ParcelMap.NONE);
        CHECK.due("another layer", map.walk(1, a, b, 0), 3);
        CHECK.due("another layer, no more", map.walk(1, a, b, 1), ParcelMap.NONE);
        CHECK.due("unknown", map.walk(0, a, 99, 0), ParcelMap.UNKNOWN);
        CHECK.due("unknown ahead of outside", map.walk(4, -1, b, 0), ParcelMap.UNKNOWN);
        CHECK.due("layer", map.walk(4, a, b, 0), ParcelMap.OUTSIDE);
        CHECK.due("layer below", map.walk(-1, a, b, 0), ParcelMap.OUTSIDE);
        CHECK.due("the same", map.walk(0, a, a, 0), ParcelMap.OUTSIDE);
        int c = Check.corner(map, 2, 2);
        CHECK.due("all within one", map.walk(0, a, c, 0), 1);
        CHECK.due("all within one, no more", map.walk(0, a, c, 1), ParcelMap.NONE);
        map.drop(1);
        CHECK.due("one is gone", map.walk(0, a, b, 1), 2);
    }

    private static void walkAlongAndThroughCorners() {
        ParcelMap map = new ParcelMap();
        Check.close(map, 0, 0, SLOT);
        Check.box(map, 0, 6, 0, 8, 8);
        int left = Check.corner(map, -2, 6);
        int right = Check.corner(map, 6, 6);
        int slotLeft = Check.corner(map, 2, 2);
        int slotRight = Check.corner(map, 4, 2);
        int low = Check.corner(map, -2, -2);
        int corner = Check.corner(map, 0, 0);
        int slotTop = Check.corner(map, 2, 6);
        int slotTopRight = Check.corner(map, 4, 6);
        int farRight = Check.corner(map, 7, 6);
        CHECK.due("along the top", map.walk(0, left, right, 0), ParcelMap.NONE);
        CHECK.due("along the top, on into the next", map.walk(0, left, farRight, 0), 1);
        CHECK.due("along the slot's ground", map.walk(0, slotLeft, slotRight, 0), ParcelMap.NONE);
        CHECK.due("across the slot", map.walk(0, slotTop, slotRight, 0), ParcelMap.NONE);
        CHECK.due("over the slot", map.walk(0, slotTop, slotTopRight, 0), ParcelMap.NONE);
        CHECK.due("to a corner", map.walk(0, low, corner, 0), ParcelMap.NONE);
        CHECK.due("corner to corner", map.walk(0, corner, slotLeft, 0), 0);
        CHECK.due("in by a corner", map.walk(0, low, slotLeft, 0), 0);
        int groundLeft = Check.corner(map, -1, 2);
        CHECK.due("in and along the ground", map.walk(0, groundLeft, slotRight, 0), 0);
        int edgeMiddle = Check.corner(map, 6, 3);
        int onSlot = Check.corner(map, 4, 5);
        CHECK.due("edge to edge", map.walk(0, edgeMiddle, onSlot, 0), 0);
        CHECK.due("edge to edge, not the next", map.walk(0, edgeMiddle, onSlot, 1), ParcelMap.NONE);
        int hair = Check.corner(map, -2, Math.nextDown(6.0));
        int hairRight = Check.corner(map, 1, Math.nextDown(6.0));
        CHECK.due("a hair below the top", map.walk(0, hair, hairRight, 0), 0);
    }

    private static void hullDue(String call, ParcelMap map, double... xy) {
        for (int i = 0; 2 * i + 1 < xy.length; i++) {
            CHECK.due(call + " x" + i, map.at(map.hullAt(i), 0), Check.bits(xy[2 * i]));
            CHECK.due(call + " y" + i, map.at(map.hullAt(i), 1), Check.bits(xy[2 * i + 1]));
        }
        CHECK.due(call + " end", map.hullAt(xy.length / 2), ParcelMap.NONE);
    }

    private static void hull() {
        ParcelMap map = new ParcelMap();
        CHECK.due("empty", map.hull(0), ParcelMap.STATE);
        CHECK.due("no layer", map.hull(4), ParcelMap.OUTSIDE);
        CHECK.due("no layer below", map.hull(-1), ParcelMap.OUTSIDE);
        Check.close(map, 0, 0, SLOT);
        Check.corner(map, -9, -9);
        CHECK.due("one", map.hull(0), 4);
        hullDue("one", map, 0, 0, 6, 0, 6, 6, 0, 6);
        Check.box(map, 0, 6, 2, 7, 4);
        CHECK.due("two", map.hull(0), 6);
        hullDue("two", map, 0, 0, 6, 0, 7, 2, 7, 4, 6, 6, 0, 6);
        CHECK.due("a refusal", map.hull(1), ParcelMap.STATE);
        hullDue("as found latest", map, 0, 0, 6, 0, 7, 2, 7, 4, 6, 6, 0, 6);
        map.drop(1);
        hullDue("still as found", map, 0, 0, 6, 0, 7, 2, 7, 4, 6, 6, 0, 6);
        CHECK.due("below 0", map.hullAt(-1), ParcelMap.NONE);
        CHECK.due("greatest", map.hullAt(Integer.MAX_VALUE), ParcelMap.NONE);
        CHECK.due("one again", map.hull(0), 4);
        hullDue("one again", map, 0, 0, 6, 0, 6, 6, 0, 6);
        Check.close(map, 2, 0, 1, 1, 1, 0, 5, 3, 3, 2);
        CHECK.due("a triangle", map.hull(2), 3);
        hullDue("a triangle", map, 1, 0, 5, 3, 1, 1);
    }

    private static void hullByAHair() {
        ParcelMap map = new ParcelMap();
        Check.close(map, 0, 0, 0, 0, 1, Math.nextDown(1.0), 3, 3, 0, 3);
        CHECK.due("bent out by a hair", map.hull(0), 4);
        Check.close(map, 1, 0, 0, 0, 1, Math.nextUp(1.0), 3, 3, 0, 3);
        CHECK.due("bent in by a hair", map.hull(1), 3);
        Check.close(map, 2, 0, 0, 0, 1, 1, 3, 3, 0, 3);
        CHECK.due("in line", map.hull(2), 3);
    }
}
