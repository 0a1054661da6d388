/** Promises 12 to 19: told, give, drop, split, join, move, border, neighbour. */
final class ParcelsTest {
    private static final Check CHECK = new Check();
    /** A U: a square with a slot from above. */
    private static final double[] SLOT = {0, 0, 6, 0, 6, 6, 4, 6, 4, 2, 2, 2, 2, 6, 0, 6};

    public static void main(String[] args) {
        told();
        giveAndDrop();
        split();
        splitRefused();
        join();
        joinApart();
        joinFaults();
        move();
        moveFaults();
        border();
        neighbour();
        CHECK.finish();
    }

    private static void told() {
        ParcelMap map = new ParcelMap();
        int p = Check.close(map, 3, -101, 0, 0, 2, 0, 0, 2);
        CHECK.due("layer", map.told(p, 0), 3);
        CHECK.due("owner", map.told(p, 1), -101);
        CHECK.due("corners", map.told(p, 2), 3);
        CHECK.due("corner 0", map.told(p, 3), 0);
        CHECK.due("corner 1", map.told(p, 4), 1);
        CHECK.due("corner 2", map.told(p, 5), 2);
        for (int what = 6; what <= 14; what++) {
            CHECK.due("none at " + what, map.told(p, what), ParcelMap.NONE);
        }
        CHECK.due("15", map.told(p, 15), ParcelMap.OUTSIDE);
        CHECK.due("-1", map.told(p, -1), ParcelMap.OUTSIDE);
        CHECK.due("greatest", map.told(p, Integer.MAX_VALUE), ParcelMap.OUTSIDE);
        CHECK.due("unknown ahead of outside", map.told(1, 15), ParcelMap.UNKNOWN);
        CHECK.due("unknown below", map.told(-1, 0), ParcelMap.UNKNOWN);
        map.drop(p);
        CHECK.due("gone", map.told(p, 0), ParcelMap.UNKNOWN);
    }

    private static void giveAndDrop() {
        ParcelMap map = new ParcelMap();
        Check.box(map, 0, 0, 0, 1, 1);
        Check.box(map, 1, 0, 0, 1, 1);
        Check.box(map, 2, 0, 0, 1, 1);
        CHECK.due("give", map.give(1, Integer.MIN_VALUE), 1);
        CHECK.due("give again", map.give(1, 5), Integer.MIN_VALUE);
        CHECK.due("owner", map.told(1, 1), 5);
        CHECK.due("others' owner", map.told(0, 1), 1);
        CHECK.due("give of none", map.give(3, 5), ParcelMap.UNKNOWN);
        CHECK.due("drop", map.drop(1), 2);
        CHECK.due("drop again", map.drop(1), ParcelMap.UNKNOWN);
        CHECK.due("give one that is gone", map.give(1, 5), ParcelMap.UNKNOWN);
        CHECK.due("drop of none", map.drop(3), ParcelMap.UNKNOWN);
        CHECK.due("drop below", map.drop(-1), ParcelMap.UNKNOWN);
        CHECK.due("drop the first", map.drop(0), 1);
        CHECK.due("drop the last", map.drop(2), 0);
        CHECK.due("a new number", Check.box(map, 0, 0, 0, 1, 1), 3);
    }

    private static void split() {
        ParcelMap map = new ParcelMap();
        Check.close(map, 2, 5, 0, 0, 2, -1, 4, 0, 4, 4, 0, 4);
        CHECK.due("cut", map.split(0, 1, 3, 9), 1);
        CHECK.ringDue("kept", map, 0, 0, 0, 2, -1, 4, 4, 0, 4);
        CHECK.ringDue("cut off", map, 1, 2, -1, 4, 0, 4, 4);
        CHECK.due("layer", map.told(1, 0), 2);
        CHECK.due("owner", map.told(1, 1), 9);
        CHECK.due("owner kept", map.told(0, 1), 5);
        CHECK.due("cut again", map.split(0, 0, 2, 8), 2);
        CHECK.ringDue("kept again", map, 0, 0, 0, 4, 4, 0, 4);
        CHECK.ringDue("with corner 0 in both", map, 2, 0, 0, 2, -1, 4, 4);
        CHECK.due("places", map.split(0, 0, 3, 8), ParcelMap.OUTSIDE);
        CHECK.due("a triangle", map.split(0, 0, 2, 8), ParcelMap.APART);
        map = new ParcelMap();
        Check.close(map, 0, 0, 0, 0, 6, 0, 8, 3, 5, 6, 1, 6);
        CHECK.due("with a new beginning", map.split(0, 2, 4, 0), 1);
        CHECK.ringDue("from the corner ahead of all", map, 1, 1, 6, 8, 3, 5, 6);
        CHECK.ringDue("from corner 0 still", map, 0, 0, 0, 6, 0, 8, 3, 1, 6);
    }

    private static void splitRefused() {
        ParcelMap map = new ParcelMap();
        Check.close(map, 0, 0, SLOT);
        CHECK.due("unknown", map.split(1, 0, 2, 0), ParcelMap.UNKNOWN);
        CHECK.due("unknown ahead of outside", map.split(1, 2, 0, 0), ParcelMap.UNKNOWN);
        CHECK.due("the same", map.split(0, 2, 2, 0), ParcelMap.OUTSIDE);
        CHECK.due("not below", map.split(0, 3, 2, 0), ParcelMap.OUTSIDE);
        CHECK.due("below 0", map.split(0, -1, 2, 0), ParcelMap.OUTSIDE);
        CHECK.due("no place", map.split(0, 0, 8, 0), ParcelMap.OUTSIDE);
        CHECK.due("one follows", map.split(0, 4, 5, 0), ParcelMap.APART);
        CHECK.due("last and first", map.split(0, 0, 7, 0), ParcelMap.APART);
        CHECK.due("outside of it", map.split(0, 3, 6, 0), ParcelMap.APART);
        CHECK.due("through the slot", map.split(0, 2, 7, 0), ParcelMap.APART);
        CHECK.due("across the slot", map.split(0, 2, 6, 0), ParcelMap.APART);
        CHECK.due("in the slot", map.split(0, 3, 5, 0), ParcelMap.APART);
        CHECK.due("along an edge and beyond", map.split(0, 0, 3, 0), ParcelMap.APART);
        CHECK.due("nothing changed", map.count(2), 1);
        CHECK.due("nor where", map.where(), 0);
        CHECK.due("inside", map.split(0, 0, 5, 0), 1);
        map = new ParcelMap();
        Check.close(map, 0, 0, 0, 0, 4, 0, 4, 4, 2, 2, 0, 4);
        CHECK.due("touches a corner", map.split(0, 2, 4, 0), ParcelMap.APART);
        CHECK.due("leaves by a corner", map.split(0, 0, 2, 0), ParcelMap.APART);
        CHECK.due("to that corner", map.split(0, 0, 3, 0), 1);
        map = new ParcelMap();
        Check.close(map, 0, 0, 0, 0, 2, 0, 4, 0, 4, 4);
        CHECK.due("along flat corners", map.split(0, 0, 2, 0), ParcelMap.APART);
        CHECK.due("from a flat corner", map.split(0, 1, 3, 0), 1);
        map = new ParcelMap();
        Check.close(map, 0, 0, 0, 0, 3, Math.nextDown(3.0), 4, 4, 0, 4);
        CHECK.due("inside by a hair", map.split(0, 0, 2, 0), 1);
        map = new ParcelMap();
        Check.close(map, 0, 0, 0, 0, 3, Math.nextUp(3.0), 4, 4, 0, 4);
        CHECK.due("outside by a hair", map.split(0, 0, 2, 0), ParcelMap.APART);
    }

    private static void join() {
        ParcelMap map = new ParcelMap();
        Check.close(map, 1, 5, 4, 0, 8, 0, 8, 4, 4, 4);
        Check.close(map, 1, 6, 0, 0, 4, 0, 4, 4, 0, 4);
        CHECK.due("one edge", map.join(0, 1), 6);
        CHECK.ringDue("one edge", map, 0, 0, 0, 4, 0, 8, 0, 8, 4, 4, 4, 0, 4);
        CHECK.due("owner stays", map.told(0, 1), 5);
        CHECK.due("the other is gone", map.told(1, 0), ParcelMap.UNKNOWN);
        CHECK.due("one is there", map.count(1), 1);
        map = new ParcelMap();
        Check.close(map, 0, 0, SLOT);
        Check.close(map, 0, 0, 2, 2, 4, 2, 4, 6, 2, 6);
        CHECK.due("three edges", map.join(1, 0), 6);
        CHECK.ringDue("corners between them go", map, 1, 0, 0, 6, 0, 6, 6, 4, 6, 2, 6, 0, 6);
        CHECK.due("undo", map.undo(), 1);
        CHECK.due("round", map.join(0, 1), 6);
        CHECK.ringDue("round", map, 0, 0, 0, 6, 0, 6, 6, 4, 6, 2, 6, 0, 6);
        map = new ParcelMap();
        Check.close(map, 0, 0, 0, 0, 2, 0, 2, 1, 0, 1);
        Check.close(map, 0, 0, 0, 1, 2, 1, 2, 2);
        CHECK.due("a row over corner 0", map.join(1, 0), 5);
        CHECK.ringDue("a row over corner 0", map, 1, 0, 0, 2, 0, 2, 1, 2, 2, 0, 1);
    }

    private static void joinApart() {
        ParcelMap map = new ParcelMap();
        Check.box(map, 0, 0, 0, 4, 4);
        Check.box(map, 0, 4, 0, 8, 3);
        Check.box(map, 0, 4, 4, 8, 8);
        Check.box(map, 1, 4, 0, 8, 4);
        CHECK.due("unknown p", map.join(4, 0), ParcelMap.UNKNOWN);
        CHECK.due("unknown q", map.join(0, 4), ParcelMap.UNKNOWN);
        CHECK.due("unknown both", map.join(-1, -1), ParcelMap.UNKNOWN);
        CHECK.due("itself", map.join(0, 0), ParcelMap.OUTSIDE);
        CHECK.due("another layer", map.join(0, 3), ParcelMap.OUTSIDE);
        CHECK.due("a part of an edge", map.join(0, 1), ParcelMap.APART);
        CHECK.due("a corner", map.join(0, 2), ParcelMap.APART);
        map = new ParcelMap();
        Check.close(map, 0, 0, SLOT);
        Check.close(map, 0, 0, 2, 2, 4, 2, 4, 6, 5, 8, 1, 8, 2, 6);
        CHECK.due("sound", map.join(0, 1), 8);
        map = new ParcelMap();
        Check.close(map, 0, 0, SLOT);
        Check.close(map, 0, 0, 2, 3, 4, 3, 4, 6, 6, 6, 6, 8, 0, 8, 0, 6, 2, 6);
        CHECK.due("two in two rows", map.join(0, 1), ParcelMap.APART);
        CHECK.due("two in two rows, round", map.join(1, 0), ParcelMap.APART);
        CHECK.due("where stays", map.where(), 0);
        CHECK.due("both there", map.count(1), 2);
    }

    private static void joinFaults() {
        ParcelMap map = new ParcelMap();
        Check.close(map, 0, 0, 0, 0, 6, 0, 6, 6, 4, 6, 4, 2, 2, 2, 2, 6, 0, 6);
        Check.close(map, 0, 0, 0, 6, 2, 6, 2, 5, 4, 5, 4, 8, 0, 8);
        CHECK.due("touches along the slot", map.join(0, 1), ParcelMap.CROSSED);
        // p from behind its edge 6: (0,6) (0,0) (6,0) (6,6) (4,6) (4,2) (2,2) (2,6), then
        // q: (2,5) (4,5) (4,8) (0,8).
        CHECK.due("touches: where", map.where(), 309);
        CHECK.due("round", map.join(1, 0), ParcelMap.CROSSED);
        // q from behind its edge 0: (2,6) (2,5) (4,5) (4,8) (0,8) (0,6), then
        // p: (0,0) (6,0) (6,6) (4,6) (4,2) (2,2).
        CHECK.due("round: where", map.where(), 11);
        map = new ParcelMap();
        Check.close(map, 0, 0, 0, 0, 6, 0, 6, 6, 4, 6, 4, 2, 2, 2, 2, 6, 0, 6);
        Check.close(map, 0, 0, 0, 6, 2, 6, 4, 6, 3, 8);
        CHECK.due("touches a corner", map.join(0, 1), ParcelMap.TWICE);
        // (0,6) (0,0) (6,0) (6,6) (4,6) (4,2) (2,2) (2,6), then (4,6) (3,8).
        CHECK.due("touches a corner: where", map.where(), 8);
        CHECK.due("touches a corner, round", map.join(1, 0), ParcelMap.TWICE);
        // (2,6) (4,6) (3,8) (0,6), then (0,0) (6,0) (6,6) (4,6) (4,2) (2,2).
        CHECK.due("touches a corner, round: where", map.where(), 7);
        map = new ParcelMap();
        Check.close(map, 0, 0, 0, 0, 1, 0, 2, 0, 3, 0, 4, 0, 4, 4, 3, 4, 2, 4, 0, 4);
        Check.close(map, 0, 0, 4, 0, 6, 0, 7, 1, 7, 3, 6, 4, 4, 4);
        CHECK.due("thirteen", map.join(0, 1), ParcelMap.FEW);
        CHECK.due("thirteen: where", map.where(), 13);
        CHECK.due("both there", map.count(1), 2);
        CHECK.due("move a corner off", map.split(1, 0, 2, 0), 2);
        CHECK.due("twelve", map.join(0, 1), 12);
        map = new ParcelMap();
        Check.close(map, 0, 0, 0, 0, 4, 0, 4, 4, 2, 4, 2, 6, 0, 6);
        Check.close(map, 0, 0, 2, 4, 4, 4, 4, 8, 2, 8);
        CHECK.due("a spike is left", map.join(0, 1), ParcelMap.CROSSED);
        // From behind (4,4) (2,4): (2,4) (2,6) (0,6) (0,0) (4,0) (4,4), then (4,8) (2,8).
        CHECK.due("a spike: where", map.where(), 7);
    }

    private static void move() {
        ParcelMap map = new ParcelMap();
        Check.box(map, 0, 0, 0, 4, 4);
        int far = Check.corner(map, 5, 6);
        CHECK.due("move", map.move(0, 2, far), 2);
        CHECK.ringDue("move", map, 0, 0, 0, 4, 0, 5, 6, 0, 4);
        int ahead = Check.corner(map, -1, 5);
        CHECK.due("a new corner 0", map.move(0, 3, ahead), 3);
        CHECK.ringDue("a new corner 0", map, 0, -1, 5, 0, 0, 4, 0, 5, 6);
        CHECK.due("to where it is", map.move(0, 0, ahead), ahead);
        CHECK.due("undo of that", map.undo(), 1);
        map = new ParcelMap();
        Check.close(map, 0, 0, 0, 0, 4, 0, 2, 3);
        int below = Check.corner(map, 2, -3);
        CHECK.due("through its edge", map.move(0, 2, below), 2);
        CHECK.ringDue("turned round", map, 0, 0, 0, 2, -3, 4, 0);
    }

    private static void moveFaults() {
        ParcelMap map = new ParcelMap();
        Check.box(map, 0, 0, 0, 4, 4);
        Check.box(map, 0, 6, 0, 8, 4);
        Check.box(map, 0, 5, 0, 6, 4);
        int far = Check.corner(map, 7, 2);
        int mid = Check.corner(map, 2, 0);
        int low = Check.corner(map, 2, -2);
        CHECK.due("unknown p", map.move(3, 0, far), ParcelMap.UNKNOWN);
        CHECK.due("unknown c", map.move(0, 9, 99), ParcelMap.UNKNOWN);
        CHECK.due("no place", map.move(0, 4, far), ParcelMap.OUTSIDE);
        CHECK.due("no place below", map.move(0, -1, far), ParcelMap.OUTSIDE);
        CHECK.due("over two", map.move(0, 2, far), ParcelMap.OVER);
        CHECK.due("the least", map.where(), 1);
        CHECK.due("twice", map.move(0, 2, map.told(0, 3)), ParcelMap.TWICE);
        CHECK.due("twice: where", map.where(), 2);
        CHECK.due("on an edge", map.move(0, 2, mid), ParcelMap.CROSSED);
        CHECK.due("on an edge: where", map.where(), 1);
        CHECK.due("through an edge", map.move(0, 3, low), ParcelMap.CROSSED);
        CHECK.due("through an edge: where", map.where(), 2);
        CHECK.ringDue("unchanged", map, 0, 0, 0, 4, 0, 4, 4, 0, 4);
        CHECK.due("the latest change is a close", map.undo(), 1);
        CHECK.due("the close is undone", map.count(1), 2);
        int touch = Check.corner(map, 6, 2);
        CHECK.due("touch", map.move(0, 2, touch), 2);
    }

    private static void border() {
        ParcelMap map = new ParcelMap();
        Check.box(map, 0, 0, 0, 4, 4);
        Check.close(map, 0, 0, 4, 1, 8, 1, 8, 3, 4, 3, 4, 2);
        Check.box(map, 0, 4, 4, 5, 5);
        Check.box(map, 1, 0, 0, 4, 4);
        Check.close(map, 0, 0, 0, 4, 1, 4, 2, 4, 3, 5);
        CHECK.due("two parts of one edge", map.border(0, 1), 2);
        CHECK.due("round", map.border(1, 0), 2);
        CHECK.due("a corner", map.border(0, 2), 0);
        CHECK.due("another layer", map.border(0, 3), 4);
        CHECK.due("another layer, apart", map.border(3, 1), 2);
        CHECK.due("flat corners", map.border(4, 0), 2);
        CHECK.due("itself", map.border(1, 1), ParcelMap.OUTSIDE);
        CHECK.due("unknown p", map.border(5, 1), ParcelMap.UNKNOWN);
        CHECK.due("unknown q", map.border(1, 5), ParcelMap.UNKNOWN);
        CHECK.due("unknown ahead of itself", map.border(5, 5), ParcelMap.UNKNOWN);
    }

    private static void neighbour() {
        ParcelMap map = new ParcelMap();
        Check.box(map, 0, 4, 0, 8, 4);
        Check.box(map, 0, 0, 1, 4, 9);
        Check.box(map, 0, 2, 0, 4, 1);
        Check.box(map, 0, 8, 4, 9, 9);
        Check.box(map, 1, 0, 0, 4, 4);
        Check.box(map, 0, 8, 0, 9, 4);
        CHECK.due("first", map.neighbour(0, 0), 1);
        CHECK.due("second", map.neighbour(0, 1), 2);
        CHECK.due("third", map.neighbour(0, 2), 5);
        CHECK.due("no fourth", map.neighbour(0, 3), ParcelMap.NONE);
        CHECK.due("none below", map.neighbour(0, -1), ParcelMap.NONE);
        CHECK.due("of the second", map.neighbour(1, 0), 0);
        CHECK.due("of the second, next", map.neighbour(1, 1), 2);
        CHECK.due("alone in its layer", map.neighbour(4, 0), ParcelMap.NONE);
        CHECK.due("unknown", map.neighbour(6, 0), ParcelMap.UNKNOWN);
        map.drop(1);
        CHECK.due("one is gone", map.neighbour(0, 0), 2);
        CHECK.due("of one that is gone", map.neighbour(1, 0), ParcelMap.UNKNOWN);
    }
}
