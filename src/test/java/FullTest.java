/**
 * The full case of each limit: 200 CORNERS, 60 PARCELS, a RING of 12, 20 CORNERS that are DRAWN. What
 * is full refuses one more, and all the rest goes on.
 */
final class FullTest {
    private static final Check CHECK = new Check();

    public static void main(String[] args) {
        twoHundredCorners();
        theLastCornerInAllCalls();
        twentyDrawn();
        sixtyByClose();
        sixtyBySplit();
        sixtyAndGone();
        sixtyAndUndone();
        whatGoesOnWithSixty();
        oneLessThanSixty();
        sixtyQuotas();
        fiftyNineNeighboursAndWalks();
        hullOfTwoHundred();
        twelveCorners();
        CHECK.finish();
    }

    /** "CORNERS (200 at most, numbered as they are made)". */
    private static void twoHundredCorners() {
        ParcelMap map = new ParcelMap();
        for (int i = 0; i < 200; i++) {
            CHECK.due("corner " + i, Check.corner(map, i, -i), i);
        }
        CHECK.due("count", map.count(0), 200);
        CHECK.due("the 201st", Check.corner(map, 200, -200), ParcelMap.FULL);
        CHECK.due("outside ahead of full", Check.corner(map, 200, 0x1p29), ParcelMap.OUTSIDE);
        for (int i = 0; i < 200; i += 199) {
            CHECK.due("the one there is, " + i, Check.corner(map, i, -i), i);
        }
        CHECK.due("0 there is, by its other bits", Check.corner(map, -0.0, -0.0), 0);
        CHECK.due("count still", map.count(0), 200);
        CHECK.due("x of the last one", map.at(199, 0), Check.bits(199));
        CHECK.due("at of the 201st", map.at(200, 0), ParcelMap.UNKNOWN);
    }

    private static void theLastCornerInAllCalls() {
        ParcelMap map = new ParcelMap();
        for (int i = 0; i < 200; i++) {
            Check.corner(map, i, i * i);
        }
        CHECK.due("side", map.side(0, 199, 198), -1);
        CHECK.due("cross", map.cross(0, 199, 199, 198), 2);
        CHECK.due("cross of 200", map.cross(0, 199, 198, 200), ParcelMap.UNKNOWN);
        CHECK.due("nearest", map.nearest(Check.bits(0x1p20), Check.bits(0x1p20)), 199);
        CHECK.due("add", map.add(199), 1);
        CHECK.due("add of 200", map.add(200), ParcelMap.UNKNOWN);
        map.add(198);
        map.add(197);
        CHECK.due("close", map.close(0, 1), 0);
        CHECK.due("told", map.told(0, 4), 198);
        CHECK.due("hull", map.hull(0), 3);
        CHECK.due("hullAt", map.hullAt(2), 199);
        CHECK.due("walk", map.walk(0, 199, 197, 0), ParcelMap.NONE);
        CHECK.due("walk to 200", map.walk(0, 0, 200, 0), ParcelMap.UNKNOWN);
        CHECK.due("move", map.move(0, 0, 0), 197);
        CHECK.due("move to 200", map.move(0, 0, 200), ParcelMap.UNKNOWN);
        CHECK.due("a point that is no corner", map.locate(0, Check.bits(198), Check.bits(198 * 198)), 0);
        CHECK.due("nearest makes no corner", map.count(0), 200);
    }

    /** "CORNERS told one by one (20 at most)"; "FULL: there are 20". */
    private static void twentyDrawn() {
        ParcelMap map = new ParcelMap();
        for (int i = 0; i < 21; i++) {
            Check.corner(map, i, i * i);
        }
        for (int i = 0; i < 20; i++) {
            CHECK.due("add " + i, map.add(i), i + 1);
        }
        CHECK.due("add of the 21st", map.add(20), ParcelMap.FULL);
        CHECK.due("unknown ahead of full", map.add(21), ParcelMap.UNKNOWN);
        CHECK.due("20 are drawn", map.count(3), 20);
        CHECK.due("close of 20", map.close(0, 1), ParcelMap.FEW);
        CHECK.due("close of 20: where", map.where(), 20);
        CHECK.due("20 are drawn still", map.count(3), 20);
        CHECK.due("full still", map.add(0), ParcelMap.FULL);
        CHECK.due("draw", map.draw(), 20);
        CHECK.due("room again", map.add(20), 1);
    }

    /** The corners are added to the empty ring that the close() before has left. */
    private static int box(ParcelMap map, int i) {
        map.add(2 * i);
        map.add(2 * i + 2);
        map.add(2 * i + 3);
        map.add(2 * i + 1);
        return map.close(0, i);
    }

    /** A row of boxes in layer 0, from corners 2 i (below) and 2 i + 1 (above): 422 calls for 60. */
    private static ParcelMap row(int boxes) {
        ParcelMap map = new ParcelMap();
        for (int i = 0; i <= boxes; i++) {
            Check.corner(map, i, 0);
            Check.corner(map, i, 1);
        }
        for (int i = 0; i < boxes; i++) {
            CHECK.due("box " + i, box(map, i), i);
        }
        return map;
    }

    /** "PARCELS (60 at most, numbered as they are made, no number twice)". */
    private static void sixtyByClose() {
        ParcelMap map = row(60);
        CHECK.due("60 are there", map.count(1), 60);
        CHECK.due("the 60th", map.told(59, 1), 59);
        Scenes.drawOf(map, 0, 2, 3);
        CHECK.due("the 61st, layer 3", map.close(3, 0), ParcelMap.FULL);
        CHECK.due("the 61st is none", map.told(60, 0), ParcelMap.UNKNOWN);
        CHECK.due("outside ahead of full", map.close(-1, 0), ParcelMap.OUTSIDE);
        CHECK.due("full ahead of over", map.close(0, 0), ParcelMap.FULL);
        CHECK.due("where", map.where(), 0);
        CHECK.due("drawn still", map.count(3), 3);
        map.draw();
        CHECK.due("full ahead of few", map.close(0, 0), ParcelMap.FULL);
        CHECK.due("60 were made", map.count(2), 60);
    }

    private static void sixtyBySplit() {
        ParcelMap map = Scenes.sixty();
        CHECK.due("60 were made", map.count(2), 60);
        CHECK.due("60 are there", map.count(1), 60);
        int[] of = {20, 20, 10, 10};
        for (int layer = 0; layer < 4; layer++) {
            CHECK.due("of layer " + layer, map.count(4 + layer), of[layer]);
        }
        CHECK.due("join", map.join(0, 9), 4);
        CHECK.due("split", map.split(0, 0, 2, 0), ParcelMap.FULL);
        CHECK.due("apart ahead of full", map.split(0, 1, 2, 0), ParcelMap.APART);
        CHECK.due("outside ahead of full", map.split(0, 2, 1, 0), ParcelMap.OUTSIDE);
        CHECK.due("unknown ahead of full", map.split(9, 0, 2, 0), ParcelMap.UNKNOWN);
        CHECK.due("59 are there", map.count(1), 59);
    }

    /** "No number twice": a number that is gone is not given again. */
    private static void sixtyAndGone() {
        ParcelMap map = Scenes.sixty();
        CHECK.due("drop", map.drop(59), 59);
        CHECK.due("drop of the first", map.drop(0), 58);
        Scenes.drawOf(map, 0, 1, 2);
        CHECK.due("close", map.close(3, 0), ParcelMap.FULL);
        CHECK.due("made ever", map.count(2), 60);
        CHECK.due("there", map.count(1), 58);
    }

    /** "Numbers that were given stay so": an undo leaves no room for another number. */
    private static void sixtyAndUndone() {
        ParcelMap map = row(60);
        CHECK.due("undo", map.undo(), 1);
        CHECK.due("59 are there", map.count(1), 59);
        CHECK.due("60 were made", map.count(2), 60);
        CHECK.due("the 60th is gone", map.told(59, 0), ParcelMap.UNKNOWN);
        CHECK.due("close", box(map, 59), ParcelMap.FULL);
        CHECK.due("undo again", map.undo(), ParcelMap.STATE);
    }

    private static void whatGoesOnWithSixty() {
        ParcelMap map = row(60);
        CHECK.due("give", map.give(59, 7), 59);
        CHECK.due("twice", map.twice(59), 2);
        CHECK.due("compare", map.compare(59, 0), 0);
        CHECK.due("border", map.border(59, 58), 1);
        CHECK.due("locate", map.locate(0, Check.bits(59.5), Check.bits(0.5)), 59);
        CHECK.due("join", map.join(59, 58), 6);
        CHECK.due("undo of it", map.undo(), 1);
        CHECK.due("move", map.move(59, 2, Check.corner(map, 60, 2)), 121);
        CHECK.due("drop", map.drop(59), 59);
        CHECK.due("undo of that", map.undo(), 1);
        CHECK.due("there again", map.told(59, 1), 7);
    }

    private static void oneLessThanSixty() {
        ParcelMap map = row(59);
        map.join(57, 58);
        CHECK.due("the 60th by a split", map.split(57, 1, 4, 3), 59);
        CHECK.due("no 61st by a split", map.split(0, 0, 2, 3), ParcelMap.FULL);
    }

    /** "Of like ones to the lesser number": 1000 is 16 for each of 60, and 40 are left. */
    private static void sixtyQuotas() {
        ParcelMap map = row(60);
        int sum = 0;
        for (int p = 0; p < 60; p++) {
            int share = map.quota(p, 1000);
            CHECK.due("1000 for " + p, share, p < 40 ? 17 : 16);
            sum += share;
        }
        CHECK.due("1000 in all", sum, 1000);
        map = row(60);
        CHECK.due("59 for the first", map.quota(0, 59), 1);
        CHECK.due("59 for the last but one", map.quota(58, 59), 1);
        CHECK.due("59 for the last", map.quota(59, 59), 0);
        CHECK.due("60 for the last", map.quota(59, 60), 1);
        CHECK.due("61 for the first", map.quota(0, 61), 2);
        CHECK.due("61 for the second", map.quota(1, 61), 1);
    }

    private static void fiftyNineNeighboursAndWalks() {
        ParcelMap map = row(59);
        int left = Check.corner(map, 0, -1);
        int right = Check.corner(map, 59, -1);
        CHECK.due("one below them all", Scenes.closeOf(map, 0, 0, left, right, 118, 0), 59);
        CHECK.due("the first neighbour", map.neighbour(59, 0), 0);
        CHECK.due("the last neighbour", map.neighbour(59, 58), 58);
        CHECK.due("no neighbour behind it", map.neighbour(59, 59), ParcelMap.NONE);
        CHECK.due("a neighbour of the first", map.neighbour(0, 1), 59);
        CHECK.due("the first walk", map.walk(0, 0, 119, 0), 0);
        CHECK.due("the last walk", map.walk(0, 0, 119, 58), 58);
        CHECK.due("no walk behind it", map.walk(0, 0, 119, 59), ParcelMap.NONE);
    }

    /** All corners there can be, each on the hull. */
    private static void hullOfTwoHundred() {
        ParcelMap map = new ParcelMap();
        for (int i = 0; i < 200; i++) {
            Check.corner(map, i, i * i);
        }
        for (int first = 0; first < 200; first += 12) {
            map.draw();
            for (int c = first; c < first + 12 && c < 200; c++) {
                map.add(c);
            }
            CHECK.due("ring from " + first, map.close(0, 1), first / 12);
        }
        CHECK.due("hull", map.hull(0), 200);
        for (int k = 0; k < 200; k += 49) {
            CHECK.due("hullAt " + k, map.hullAt(k), k);
        }
        CHECK.due("hullAt 199", map.hullAt(199), 199);
        CHECK.due("hullAt 200", map.hullAt(200), ParcelMap.NONE);
        CHECK.due("hull of a lesser layer", map.hull(1), ParcelMap.STATE);
        map.drop(0);
        CHECK.due("hull without the first ring", map.hull(0), 188);
        CHECK.due("it begins behind it", map.hullAt(0), 12);
        CHECK.due("it ends there", map.hullAt(188), ParcelMap.NONE);
    }

    /** "A RING of 3 to 12 CORNERS": all that is done with one of 12. */
    private static void twelveCorners() {
        ParcelMap map = new ParcelMap();
        double[] xy = new double[24];
        for (int i = 0; i < 12; i++) {
            xy[2 * i] = i;
            xy[2 * i + 1] = i * i;
        }
        CHECK.due("close", Check.close(map, 0, 1, xy), 0);
        CHECK.due("the twelfth", map.told(0, 14), 11);
        CHECK.due("edge 11", map.locate(0, Check.bits(5), Check.bits(55)), 0);
        CHECK.due("edge 11 is found", map.edge(), 11);
        CHECK.due("split off as much as can be", map.split(0, 0, 10, 2), 1);
        CHECK.due("three are kept", map.told(0, 2), 3);
        CHECK.due("eleven are new", map.told(1, 2), 11);
        CHECK.due("join", map.join(1, 0), 12);
        CHECK.due("undo", map.undo(), 1);
        CHECK.due("join round", map.join(0, 1), 12);
        CHECK.due("split at the end", map.split(0, 9, 11, 2), 2);
        CHECK.due("eleven are kept", map.told(0, 2), 11);
        CHECK.due("three are new", map.told(2, 2), 3);
        CHECK.due("twice", map.twice(0) + map.twice(2), 10 * 11 * 12 / 6 * 2);
    }
}
