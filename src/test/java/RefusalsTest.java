import java.util.function.Supplier;
import java.util.function.ToLongFunction;

/**
 * "Refusals, of several the first as told by each call .. they change nothing (but WHERE)": every
 * refusal of every call of promises 2 to 30, ahead of each one behind it in that call's order. The
 * FAULTS have FaultsTest.
 */
final class RefusalsTest {
    private static final Check CHECK = new Check();
    private static final Twins TWINS = new Twins(CHECK);
    private static final int LEAST = Integer.MIN_VALUE;
    private static final int GREATEST = Integer.MAX_VALUE;
    private static final long ONE = Check.bits(1);
    private static final long[] NO_NUMBERS = {Check.bits(Double.NaN), Check.bits(0x1p29), Check.bits(-0x1p-21)};
    private static final int[] NO_CORNERS = {-1, Scenes.CORNERS, LEAST, GREATEST};
    private static final int[] NO_PARCELS = {-1, Scenes.PARCELS, Scenes.DROPPED, Scenes.UNDONE, LEAST, GREATEST};
    private static final int[] NO_LAYERS = {-1, 4, LEAST, GREATEST};

    public static void main(String[] args) {
        corner();
        at();
        side();
        cross();
        nearest();
        add();
        close();
        told();
        giveAndDrop();
        split();
        splitApart();
        join();
        move();
        border();
        neighbour();
        locate();
        walk();
        hull();
        twiceAndCompare();
        quota();
        undo();
        count();
        CHECK.finish();
    }

    private static void busy(String name, ToLongFunction<ParcelMap> call, long due) {
        TWINS.refused("busy: " + name, Scenes::busy, call, due);
    }

    private static void full(String name, ToLongFunction<ParcelMap> call, long due) {
        TWINS.refused("full: " + name, Scenes::full, call, due);
    }

    private static void corner() {
        for (long no : NO_NUMBERS) {
            busy("corner of x " + no, m -> m.corner(no, ONE), ParcelMap.OUTSIDE);
            busy("corner of y " + no, m -> m.corner(ONE, no), ParcelMap.OUTSIDE);
            full("outside ahead of full " + no, m -> m.corner(ONE, no), ParcelMap.OUTSIDE);
        }
        full("corner", m -> Check.corner(m, 1, 3), ParcelMap.FULL);
    }

    private static void at() {
        for (int no : NO_CORNERS) {
            busy("at of corner " + no, m -> m.at(no, 0), ParcelMap.UNKNOWN);
            busy("at: unknown ahead of outside " + no, m -> m.at(no, 2), ParcelMap.UNKNOWN);
        }
        for (int no : new int[] {-1, 2, LEAST, GREATEST}) {
            busy("at of axis " + no, m -> m.at(0, no), ParcelMap.OUTSIDE);
        }
        full("at of corner 200", m -> m.at(200, 0), ParcelMap.UNKNOWN);
    }

    private static void side() {
        for (int no : NO_CORNERS) {
            busy("side from " + no, m -> m.side(no, 1, 2), ParcelMap.UNKNOWN);
            busy("side to " + no, m -> m.side(0, no, 2), ParcelMap.UNKNOWN);
            busy("side of " + no, m -> m.side(0, 1, no), ParcelMap.UNKNOWN);
        }
        full("side of corner 200", m -> m.side(0, 1, 200), ParcelMap.UNKNOWN);
    }

    private static void cross() {
        for (int no : NO_CORNERS) {
            busy("cross a " + no, m -> m.cross(no, 1, 2, 3), ParcelMap.UNKNOWN);
            busy("cross b " + no, m -> m.cross(0, no, 2, 3), ParcelMap.UNKNOWN);
            busy("cross c " + no, m -> m.cross(0, 1, no, 3), ParcelMap.UNKNOWN);
            busy("cross d " + no, m -> m.cross(0, 1, 2, no), ParcelMap.UNKNOWN);
            busy("unknown and a is b " + no, m -> m.cross(no, no, 2, 3), ParcelMap.UNKNOWN);
            busy("unknown and c is d " + no, m -> m.cross(0, 1, no, no), ParcelMap.UNKNOWN);
            busy("unknown c, a is b " + no, m -> m.cross(0, 0, no, 3), ParcelMap.UNKNOWN);
            busy("unknown b, c is d " + no, m -> m.cross(0, no, 3, 3), ParcelMap.UNKNOWN);
        }
        busy("a is b", m -> m.cross(0, 0, 2, 3), ParcelMap.OUTSIDE);
        busy("c is d", m -> m.cross(0, 1, 3, 3), ParcelMap.OUTSIDE);
        busy("a is b, c is d", m -> m.cross(0, 0, 0, 0), ParcelMap.OUTSIDE);
    }

    private static void nearest() {
        for (long no : NO_NUMBERS) {
            busy("nearest to x " + no, m -> m.nearest(no, ONE), ParcelMap.OUTSIDE);
            busy("nearest to y " + no, m -> m.nearest(ONE, no), ParcelMap.OUTSIDE);
            TWINS.refused("outside without corners " + no, ParcelMap::new, m -> m.nearest(no, no),
                    ParcelMap.OUTSIDE);
        }
    }

    private static void add() {
        for (int no : NO_CORNERS) {
            busy("add of " + no, m -> m.add(no), ParcelMap.UNKNOWN);
        }
        full("add of the 21st", m -> m.add(0), ParcelMap.FULL);
        full("unknown ahead of full", m -> m.add(200), ParcelMap.UNKNOWN);
        full("unknown ahead of full, below", m -> m.add(-1), ParcelMap.UNKNOWN);
    }

    private static Supplier<ParcelMap> drawn(Supplier<ParcelMap> scene, int... corners) {
        return () -> {
            ParcelMap map = scene.get();
            Scenes.drawOf(map, corners);
            return map;
        };
    }

    /** Rings that are sound, FEW, more than 12, TWICE, CROSSED and OVER in layer 0 of either scene. */
    private static final int[][] RINGS = {{7, 9, 11}, {0, 1}, {0, 1, 2, 3, 4, 5, 6, 7, 8, 9, 10, 11, 0},
        {0, 1, 2, 1}, {0, 2, 1, 3}, {0, 1, 2}};

    /** What each of them is on a layer that there is, and with a number that is left. */
    private static final int[] ANSWERS = {Scenes.PARCELS, ParcelMap.FEW, ParcelMap.FEW, ParcelMap.TWICE,
        ParcelMap.CROSSED, ParcelMap.OVER};

    private static void close() {
        for (int i = 0; i < RINGS.length; i++) {
            CHECK.due("close of ring " + i, drawn(Scenes::busy, RINGS[i]).get().close(0, 5), ANSWERS[i]);
        }
        for (int[] ring : RINGS) {
            String name = java.util.Arrays.toString(ring);
            for (int no : NO_LAYERS) {
                TWINS.refused("close on layer " + no + " of " + name, drawn(Scenes::busy, ring),
                        m -> m.close(no, 5), ParcelMap.OUTSIDE);
            }
            TWINS.refused("outside ahead of full: " + name, drawn(Scenes::sixty, ring),
                    m -> m.close(4, 5), ParcelMap.OUTSIDE);
            TWINS.refused("full: " + name, drawn(Scenes::sixty, ring), m -> m.close(0, 5), ParcelMap.FULL);
        }
        full("close of 20", m -> m.close(0, 5), ParcelMap.FULL);
    }

    private static void told() {
        for (int no : NO_PARCELS) {
            busy("told of " + no, m -> m.told(no, 0), ParcelMap.UNKNOWN);
            busy("told: unknown ahead of outside " + no, m -> m.told(no, 15), ParcelMap.UNKNOWN);
        }
        for (int no : new int[] {-1, 15, LEAST, GREATEST}) {
            busy("told what " + no, m -> m.told(0, no), ParcelMap.OUTSIDE);
        }
        full("told of 60", m -> m.told(60, 0), ParcelMap.UNKNOWN);
    }

    private static void giveAndDrop() {
        for (int no : NO_PARCELS) {
            busy("give " + no, m -> m.give(no, 5), ParcelMap.UNKNOWN);
            busy("drop " + no, m -> m.drop(no), ParcelMap.UNKNOWN);
        }
        full("give 60", m -> m.give(60, 5), ParcelMap.UNKNOWN);
        full("drop 60", m -> m.drop(60), ParcelMap.UNKNOWN);
    }

    private static void split() {
        for (int no : NO_PARCELS) {
            busy("split " + no, m -> m.split(no, 0, 2, 5), ParcelMap.UNKNOWN);
            busy("split: unknown ahead of outside " + no, m -> m.split(no, 2, 0, 5), ParcelMap.UNKNOWN);
        }
        int[][] noPlaces = {{2, 2}, {2, 1}, {3, 0}, {-1, 1}, {-1, 4}, {0, 4}, {2, 4}, {4, 5}, {-3, -1},
            {LEAST, 2}, {0, GREATEST}, {LEAST, GREATEST}, {GREATEST, LEAST}};
        for (int[] no : noPlaces) {
            busy("split at " + no[0] + " " + no[1], m -> m.split(0, no[0], no[1], 5), ParcelMap.OUTSIDE);
            full("outside ahead of full " + no[0] + " " + no[1], m -> m.split(0, no[0], no[1], 5),
                    ParcelMap.OUTSIDE);
        }
        full("unknown ahead of full", m -> m.split(60, 0, 2, 5), ParcelMap.UNKNOWN);
        full("apart ahead of full", m -> m.split(0, 0, 1, 5), ParcelMap.APART);
        full("apart ahead of full, last and first", m -> m.split(0, 0, 2, 5), ParcelMap.APART);
        TWINS.refused("split is full", RefusalsTest::sixtyWithOneToCut, m -> m.split(0, 0, 2, 5), ParcelMap.FULL);
        TWINS.refused("split is full, round", RefusalsTest::sixtyWithOneToCut, m -> m.split(0, 1, 3, 5),
                ParcelMap.FULL);
    }

    /** Two of the 60 joined again: number 0 has four corners, and no number is left. */
    private static ParcelMap sixtyWithOneToCut() {
        ParcelMap map = Scenes.sixty();
        CHECK.due("join of two of 60", map.join(0, 9), 4);
        return map;
    }

    /** A square with a slot from above, and a wedge with flat corners beside it. */
    private static ParcelMap slotted() {
        ParcelMap map = new ParcelMap();
        Check.close(map, 0, 1, 0, 0, 6, 0, 6, 6, 4, 6, 4, 2, 2, 2, 2, 6, 0, 6);
        Check.close(map, 0, 2, 10, 0, 12, 0, 14, 0, 14, 4);
        return map;
    }

    private static void splitApart() {
        int[][] apart = {{0, 1}, {3, 4}, {6, 7}, {0, 7}, {3, 6}, {2, 7}, {2, 6}, {3, 5}, {0, 3}, {1, 6}};
        for (int[] places : apart) {
            TWINS.refused("split between " + places[0] + " " + places[1], RefusalsTest::slotted,
                    m -> m.split(0, places[0], places[1], 5), ParcelMap.APART);
        }
        TWINS.refused("split along flat corners", RefusalsTest::slotted, m -> m.split(1, 0, 2, 5), ParcelMap.APART);
    }

    private static void join() {
        for (int no : NO_PARCELS) {
            busy("join to " + no, m -> m.join(no, 0), ParcelMap.UNKNOWN);
            busy("join of " + no, m -> m.join(0, no), ParcelMap.UNKNOWN);
            busy("join: unknown ahead of p is q " + no, m -> m.join(no, no), ParcelMap.UNKNOWN);
        }
        busy("join of p and p", m -> m.join(1, 1), ParcelMap.OUTSIDE);
        busy("another layer", m -> m.join(0, 2), ParcelMap.OUTSIDE);
        busy("another layer, round", m -> m.join(2, 0), ParcelMap.OUTSIDE);
        Supplier<ParcelMap> apart = () -> {
            ParcelMap map = new ParcelMap();
            Check.box(map, 0, 0, 0, 4, 4);
            Check.box(map, 1, 4, 0, 8, 4);
            Check.box(map, 0, 4, 0, 8, 3);
            Check.box(map, 0, 4, 4, 8, 8);
            Check.box(map, 0, 20, 0, 24, 4);
            return map;
        };
        TWINS.refused("another layer, with an edge in common", apart, m -> m.join(0, 1), ParcelMap.OUTSIDE);
        TWINS.refused("outside ahead of apart", apart, m -> m.join(4, 1), ParcelMap.OUTSIDE);
        TWINS.refused("a part of an edge", apart, m -> m.join(0, 2), ParcelMap.APART);
        TWINS.refused("a corner", apart, m -> m.join(0, 3), ParcelMap.APART);
        TWINS.refused("nothing at all", apart, m -> m.join(4, 0), ParcelMap.APART);
    }

    private static void move() {
        for (int no : NO_PARCELS) {
            busy("move of " + no, m -> m.move(no, 0, 6), ParcelMap.UNKNOWN);
            busy("move: unknown ahead of outside " + no, m -> m.move(no, 4, 6), ParcelMap.UNKNOWN);
        }
        for (int no : NO_CORNERS) {
            busy("move to " + no, m -> m.move(0, 0, no), ParcelMap.UNKNOWN);
            busy("move to: unknown ahead of outside " + no, m -> m.move(0, -1, no), ParcelMap.UNKNOWN);
        }
        for (int no : new int[] {-1, 4, LEAST, GREATEST}) {
            busy("move at " + no, m -> m.move(0, no, 6), ParcelMap.OUTSIDE);
            busy("outside ahead of faults " + no, m -> m.move(0, no, 0), ParcelMap.OUTSIDE);
        }
        full("move to 200", m -> m.move(0, 0, 200), ParcelMap.UNKNOWN);
    }

    private static void border() {
        for (int no : NO_PARCELS) {
            busy("border of " + no, m -> m.border(no, 0), ParcelMap.UNKNOWN);
            busy("border with " + no, m -> m.border(0, no), ParcelMap.UNKNOWN);
            busy("border: unknown ahead of p is q " + no, m -> m.border(no, no), ParcelMap.UNKNOWN);
        }
        busy("border with itself", m -> m.border(1, 1), ParcelMap.OUTSIDE);
    }

    private static void neighbour() {
        for (int no : NO_PARCELS) {
            busy("neighbour of " + no, m -> m.neighbour(no, 0), ParcelMap.UNKNOWN);
            busy("neighbour of " + no + ", none", m -> m.neighbour(no, -1), ParcelMap.UNKNOWN);
        }
        for (int none : new int[] {1, -1, LEAST, GREATEST}) {
            busy("no neighbour " + none, m -> m.neighbour(0, none), ParcelMap.NONE);
        }
    }

    private static void locate() {
        for (int no : NO_LAYERS) {
            busy("locate on layer " + no, m -> m.locate(no, ONE, ONE), ParcelMap.OUTSIDE);
        }
        for (long no : NO_NUMBERS) {
            busy("locate x " + no, m -> m.locate(0, no, ONE), ParcelMap.OUTSIDE);
            busy("locate y " + no, m -> m.locate(0, ONE, no), ParcelMap.OUTSIDE);
            busy("locate on an empty layer " + no, m -> m.locate(3, no, no), ParcelMap.OUTSIDE);
        }
    }

    private static void walk() {
        for (int no : NO_CORNERS) {
            busy("walk from " + no, m -> m.walk(0, no, 1, 0), ParcelMap.UNKNOWN);
            busy("walk to " + no, m -> m.walk(0, 1, no, 0), ParcelMap.UNKNOWN);
            busy("unknown ahead of layer " + no, m -> m.walk(4, no, 1, 0), ParcelMap.UNKNOWN);
            busy("unknown ahead of a is b " + no, m -> m.walk(0, no, no, 0), ParcelMap.UNKNOWN);
        }
        for (int no : NO_LAYERS) {
            busy("walk on layer " + no, m -> m.walk(no, 0, 2, 0), ParcelMap.OUTSIDE);
        }
        busy("walk from a to a", m -> m.walk(0, 6, 6, 0), ParcelMap.OUTSIDE);
        for (int none : new int[] {1, -1, LEAST, GREATEST}) {
            busy("no walk " + none, m -> m.walk(0, 0, 2, none), ParcelMap.NONE);
        }
    }

    private static void hull() {
        for (int no : NO_LAYERS) {
            busy("hull of layer " + no, m -> m.hull(no), ParcelMap.OUTSIDE);
        }
        busy("hull of a layer whose close was undone", m -> m.hull(2), ParcelMap.STATE);
        busy("hull of a layer that never had any", m -> m.hull(3), ParcelMap.STATE);
        TWINS.refused("hull of a new object", ParcelMap::new, m -> m.hull(0), ParcelMap.STATE);
        for (int none : new int[] {4, -1, LEAST, GREATEST}) {
            busy("no hull corner " + none, m -> m.hullAt(none), ParcelMap.NONE);
        }
    }

    private static void twiceAndCompare() {
        for (int no : NO_PARCELS) {
            busy("twice of " + no, m -> m.twice(no), ParcelMap.UNKNOWN);
            busy("compare of " + no, m -> m.compare(no, 0), ParcelMap.UNKNOWN);
            busy("compare with " + no, m -> m.compare(0, no), ParcelMap.UNKNOWN);
            busy("compare " + no + " with itself", m -> m.compare(no, no), ParcelMap.UNKNOWN);
        }
    }

    private static void quota() {
        for (int no : NO_PARCELS) {
            busy("quota of " + no, m -> m.quota(no, 1), ParcelMap.UNKNOWN);
            busy("quota: unknown ahead of outside " + no, m -> m.quota(no, 1001), ParcelMap.UNKNOWN);
        }
        for (int no : new int[] {-1, 1001, LEAST, GREATEST}) {
            busy("quota of n " + no, m -> m.quota(0, no), ParcelMap.OUTSIDE);
        }
    }

    private static void undo() {
        TWINS.refused("nothing to undo", ParcelMap::new, ParcelMap::undo, ParcelMap.STATE);
        Supplier<ParcelMap> undone = () -> {
            ParcelMap map = Scenes.busy();
            map.undo();
            return map;
        };
        TWINS.refused("it was undone", undone, ParcelMap::undo, ParcelMap.STATE);
    }

    private static void count() {
        for (int no : new int[] {-1, 8, LEAST, GREATEST}) {
            busy("count of " + no, m -> m.count(no), ParcelMap.OUTSIDE);
        }
    }
}
