/** Maps in a state of their own, made anew for each question, with calls to spare below the 512. */
final class Scenes {
    /** Of busy(): corners made, parcels made, and two of these that are not there any more. */
    static final int CORNERS = 12;
    static final int PARCELS = 5;
    static final int DROPPED = 3;
    static final int UNDONE = 4;
    /** Of busy(): what where() tells. */
    static final int WHERE = 3;

    private Scenes() {
    }

    /**
     * Two parcels side by side in layer 0, one in layer 1, none in 2 and 3; a dropped one, one whose
     * close() was undone; two corners drawn; a side, a place and a hull found; a gift to undo.
     */
    static ParcelMap busy() {
        ParcelMap map = new ParcelMap();
        double[][] at = {{0, 0}, {4, 0}, {4, 4}, {0, 4}, {8, 0}, {8, 4}, {2, 2}, {6, 6}, {12, 0}, {12, 4},
            {-3, 5}, {20, 20}};
        for (double[] xy : at) {
            Check.corner(map, xy[0], xy[1]);
        }
        closeOf(map, 0, 10, 0, 1, 2, 3);
        closeOf(map, 0, 11, 1, 4, 5, 2);
        closeOf(map, 1, 12, 0, 1, 2, 3);
        closeOf(map, 0, 13, 4, 8, 9, 5);
        closeOf(map, 2, 14, 0, 1, 2, 3);
        map.undo();
        map.drop(DROPPED);
        map.give(1, 77);
        closeOf(map, 0, 0, 0, 1, 2, 1);
        drawOf(map, 0, 1);
        map.side(0, 1, 6);
        map.locate(0, Check.bits(4), Check.bits(2));
        map.hull(0);
        return map;
    }

    /** 60 parcels made, all of them there: six rings of 12, each cut into 10 triangles. */
    static ParcelMap sixty() {
        ParcelMap map = new ParcelMap();
        for (int i = 0; i < 24; i++) {
            Check.corner(map, i / 12 * 20 + i % 12, i % 12 * (i % 12));
        }
        for (int ring = 0; ring < 6; ring++) {
            int first = ring / 4 * 12;
            int[] corners = new int[12];
            for (int i = 0; i < 12; i++) {
                corners[i] = first + i;
            }
            int p = closeOf(map, ring % 4, ring, corners);
            for (int i = 0; i < 9; i++) {
                map.split(p, 0, 2, i);
            }
        }
        return map;
    }

    /** 60 parcels, 200 corners, 20 of them drawn. */
    static ParcelMap full() {
        ParcelMap map = sixty();
        for (int i = 24; i < 200; i++) {
            Check.corner(map, i, -i);
        }
        for (int i = 0; i < 20; i++) {
            map.add(180 + i);
        }
        return map;
    }

    static void drawOf(ParcelMap map, int... corners) {
        map.draw();
        for (int c : corners) {
            map.add(c);
        }
    }

    static int closeOf(ParcelMap map, int layer, int owner, int... corners) {
        drawOf(map, corners);
        return map.close(layer, owner);
    }
}
