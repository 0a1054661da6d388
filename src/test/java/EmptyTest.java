/**
 * Promise 1, "No CORNERS, PARCELS; no RING is DRAWN; WHERE is 0; nothing to undo": what every call
 * answers on a new object, and on one that has become empty again.
 */
final class EmptyTest {
    private static final Check CHECK = new Check();
    private static final long ONE = Check.bits(1);

    public static void main(String[] args) {
        newObject();
        newObjectWithoutCorners();
        newObjectWithoutParcels();
        newObjectThatIsFirstAsked();
        cornersAlone();
        drawnEmptyAgain();
        allDropped();
        allUndone();
        layerEmptied();
        objectsAreApart();
        CHECK.finish();
    }

    private static void newObject() {
        ParcelMap map = new ParcelMap();
        for (int what = 0; what < 8; what++) {
            CHECK.due("count " + what, map.count(what), 0);
        }
        CHECK.due("where", map.where(), 0);
        CHECK.due("sure before any side", map.sure(), ParcelMap.NONE);
        CHECK.due("edge before any locate", map.edge(), ParcelMap.NONE);
        for (int k = -1; k < 4; k++) {
            CHECK.due("hullAt before any hull " + k, map.hullAt(k), ParcelMap.NONE);
        }
        CHECK.due("digest", map.digest(), 23);
        CHECK.due("undo", map.undo(), ParcelMap.STATE);
    }

    private static void newObjectWithoutCorners() {
        ParcelMap map = new ParcelMap();
        CHECK.due("at", map.at(0, 0), ParcelMap.UNKNOWN);
        CHECK.due("side", map.side(0, 0, 0), ParcelMap.UNKNOWN);
        CHECK.due("sure still", map.sure(), ParcelMap.NONE);
        CHECK.due("cross", map.cross(0, 0, 0, 0), ParcelMap.UNKNOWN);
        CHECK.due("nearest", map.nearest(ONE, ONE), ParcelMap.NONE);
        CHECK.due("nearest to 0", map.nearest(0, 0), ParcelMap.NONE);
        CHECK.due("add", map.add(0), ParcelMap.UNKNOWN);
        CHECK.due("walk", map.walk(0, 0, 1, 0), ParcelMap.UNKNOWN);
        CHECK.due("corners", map.count(0), 0);
    }

    private static void newObjectWithoutParcels() {
        ParcelMap map = new ParcelMap();
        CHECK.due("told", map.told(0, 0), ParcelMap.UNKNOWN);
        CHECK.due("give", map.give(0, 1), ParcelMap.UNKNOWN);
        CHECK.due("drop", map.drop(0), ParcelMap.UNKNOWN);
        CHECK.due("split", map.split(0, 0, 2, 1), ParcelMap.UNKNOWN);
        CHECK.due("join", map.join(0, 1), ParcelMap.UNKNOWN);
        CHECK.due("join of 0 and 0", map.join(0, 0), ParcelMap.UNKNOWN);
        CHECK.due("move", map.move(0, 0, 0), ParcelMap.UNKNOWN);
        CHECK.due("border", map.border(0, 1), ParcelMap.UNKNOWN);
        CHECK.due("neighbour", map.neighbour(0, 0), ParcelMap.UNKNOWN);
        CHECK.due("twice", map.twice(0), ParcelMap.UNKNOWN);
        CHECK.due("compare", map.compare(0, 0), ParcelMap.UNKNOWN);
        CHECK.due("quota", map.quota(0, 0), ParcelMap.UNKNOWN);
        for (int layer = 0; layer < 4; layer++) {
            CHECK.due("locate on " + layer, map.locate(layer, 0, 0), ParcelMap.NONE);
            CHECK.due("edge on " + layer, map.edge(), ParcelMap.NONE);
            CHECK.due("hull of " + layer, map.hull(layer), ParcelMap.STATE);
        }
        CHECK.due("undo of refusals", map.undo(), ParcelMap.STATE);
        CHECK.due("close of nothing", map.close(0, 1), ParcelMap.FEW);
        CHECK.due("close of nothing: where", map.where(), 0);
        CHECK.due("parcels", map.count(2), 0);
    }

    /** Each call may be the first one. */
    private static void newObjectThatIsFirstAsked() {
        CHECK.due("draw first", new ParcelMap().draw(), 0);
        CHECK.due("corner first", new ParcelMap().corner(0, 0), 0);
        CHECK.due("close first", new ParcelMap().close(3, 0), ParcelMap.FEW);
        CHECK.due("close of no layer first", new ParcelMap().close(4, 0), ParcelMap.OUTSIDE);
        CHECK.due("undo first", new ParcelMap().undo(), ParcelMap.STATE);
        ParcelMap map = new ParcelMap();
        Check.corner(map, 0, 0);
        Check.corner(map, 4, 0);
        Check.corner(map, 0, 4);
        for (int c = 0; c < 3; c++) {
            CHECK.due("add without draw", map.add(c), c + 1);
        }
        CHECK.due("close without draw", map.close(0, 1), 0);
    }

    private static void cornersAlone() {
        ParcelMap map = new ParcelMap();
        Check.corner(map, 3, 3);
        CHECK.due("one corner is nearest to all", map.nearest(Check.bits(-0x1p28), Check.bits(0x1p28)), 0);
        CHECK.due("side of one", map.side(0, 0, 0), 0);
        CHECK.due("cross of one", map.cross(0, 0, 0, 0), ParcelMap.OUTSIDE);
        CHECK.due("walk of one", map.walk(0, 0, 0, 0), ParcelMap.OUTSIDE);
        Check.corner(map, 5, 5);
        CHECK.due("walk without parcels", map.walk(0, 0, 1, 0), ParcelMap.NONE);
        CHECK.due("cross of two", map.cross(0, 1, 1, 0), 3);
        CHECK.due("digest tells no corners", map.digest(), 23);
        CHECK.due("hull tells no corners", map.hull(0), ParcelMap.STATE);
        CHECK.due("undo tells no corners", map.undo(), ParcelMap.STATE);
        CHECK.due("corners stay", map.count(0), 2);
    }

    /** "DRAWN is an empty one then"; "A RING is DRAWN anew". */
    private static void drawnEmptyAgain() {
        ParcelMap map = new ParcelMap();
        Check.close(map, 0, 1, 0, 0, 4, 0, 0, 4);
        CHECK.due("behind a close", map.count(3), 0);
        CHECK.due("close again", map.close(1, 1), ParcelMap.FEW);
        CHECK.due("close again: where", map.where(), 0);
        CHECK.due("the next one begins anew", map.add(0), 1);
        CHECK.due("draw", map.draw(), 1);
        CHECK.due("behind a draw", map.count(3), 0);
        CHECK.due("draw again", map.draw(), 0);
        CHECK.due("close behind a draw", map.close(1, 1), ParcelMap.FEW);
        for (int i = 0; i < 20; i++) {
            map.add(i % 3);
        }
        CHECK.due("draw behind 20", map.draw(), 20);
        CHECK.due("room again", map.add(2), 1);
        CHECK.due("the first one is new", map.add(1), 2);
        CHECK.due("and so on", map.add(0), 3);
        CHECK.due("close", map.close(2, 1), 1);
        CHECK.due("its corners", map.told(1, 2), 3);
    }

    private static void noneThere(String name, ParcelMap map, int made) {
        CHECK.due(name + ": digest", map.digest(), 23);
        CHECK.due(name + ": there", map.count(1), 0);
        CHECK.due(name + ": made ever", map.count(2), made);
        for (int layer = 0; layer < 4; layer++) {
            CHECK.due(name + ": of layer " + layer, map.count(4 + layer), 0);
            CHECK.due(name + ": hull of " + layer, map.hull(layer), ParcelMap.STATE);
            CHECK.due(name + ": locate on " + layer, map.locate(layer, ONE, ONE), ParcelMap.NONE);
            CHECK.due(name + ": walk on " + layer, map.walk(layer, 0, 2, 0), ParcelMap.NONE);
        }
        for (int p = 0; p < made; p++) {
            CHECK.due(name + ": told of " + p, map.told(p, 0), ParcelMap.UNKNOWN);
        }
    }

    private static void allDropped() {
        ParcelMap map = new ParcelMap();
        Check.box(map, 0, 0, 0, 4, 4);
        Check.box(map, 1, 0, 0, 4, 4);
        CHECK.due("one is left", map.drop(0), 1);
        CHECK.due("none is left", map.drop(1), 0);
        noneThere("all dropped", map, 2);
        CHECK.due("undo", map.undo(), 1);
        CHECK.due("one is back", map.count(1), 1);
        CHECK.due("the next number", Check.box(map, 0, 0, 0, 4, 4), 2);
    }

    private static void allUndone() {
        ParcelMap map = new ParcelMap();
        Check.box(map, 3, 0, 0, 4, 4);
        CHECK.due("undo", map.undo(), 1);
        noneThere("all undone", map, 1);
        CHECK.due("undo again", map.undo(), ParcelMap.STATE);
        CHECK.due("the ring is not drawn again", map.count(3), 0);
        CHECK.due("corners stay", map.count(0), 4);
        CHECK.due("numbers that were given stay so", Check.box(map, 3, 0, 0, 4, 4), 1);
    }

    /** A layer without parcels, while others have some. */
    private static void layerEmptied() {
        ParcelMap map = new ParcelMap();
        Check.box(map, 0, 0, 0, 4, 4);
        Check.box(map, 1, 0, 0, 4, 4);
        CHECK.due("hull of both", map.hull(0), 4);
        map.drop(0);
        CHECK.due("hull of the empty one", map.hull(0), ParcelMap.STATE);
        CHECK.due("the hull that was found", map.hullAt(3), map.told(1, 6));
        CHECK.due("hull of the other one", map.hull(1), 4);
        CHECK.due("locate", map.locate(0, ONE, ONE), ParcelMap.NONE);
        CHECK.due("count", map.count(4), 0);
        CHECK.due("count of the other one", map.count(5), 1);
    }

    private static void objectsAreApart() {
        ParcelMap one = Scenes.busy();
        ParcelMap two = new ParcelMap();
        CHECK.due("nothing in the second one", two.count(0), 0);
        CHECK.due("where of the second one", two.where(), 0);
        CHECK.due("undo of the second one", two.undo(), ParcelMap.STATE);
        CHECK.due("sure of the second one", two.sure(), ParcelMap.NONE);
        CHECK.due("sure of the first one", one.sure(), 1);
        CHECK.due("undo of the first one", one.undo(), 1);
    }
}
