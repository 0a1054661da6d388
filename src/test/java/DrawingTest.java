/** Promises 8 to 11: draw, add, close, where. */
final class DrawingTest {
    private static final Check CHECK = new Check();

    public static void main(String[] args) {
        drawAndAdd();
        closedRings();
        fewAndTwice();
        crossed();
        crossedByAHair();
        over();
        overWithoutCrossings();
        touching();
        orderOfRefusals();
        sixtyParcels();
        CHECK.finish();
    }

    private static void drawAndAdd() {
        ParcelMap map = new ParcelMap();
        int c = Check.corner(map, 1, 1);
        CHECK.due("add without draw", map.add(c), 1);
        CHECK.due("add", map.add(c), 2);
        CHECK.due("unknown", map.add(1), ParcelMap.UNKNOWN);
        CHECK.due("unknown below", map.add(-1), ParcelMap.UNKNOWN);
        CHECK.due("count", map.count(3), 2);
        CHECK.due("draw tells those before", map.draw(), 2);
        CHECK.due("draw again", map.draw(), 0);
        for (int i = 1; i <= 20; i++) {
            CHECK.due("add " + i, map.add(c), i);
        }
        CHECK.due("the 21st", map.add(c), ParcelMap.FULL);
        CHECK.due("unknown ahead of full", map.add(9), ParcelMap.UNKNOWN);
        CHECK.due("count of 20", map.count(3), 20);
        CHECK.due("draw of 20", map.draw(), 20);
    }

    private static void closedRings() {
        ParcelMap map = new ParcelMap();
        CHECK.due("left", Check.close(map, 0, 7, 4, 0, 4, 4, 0, 4, 0, 0), 0);
        CHECK.ringDue("begins ahead of all", map, 0, 0, 0, 4, 0, 4, 4, 0, 4);
        CHECK.due("drawn is empty", map.count(3), 0);
        CHECK.due("nothing drawn", map.draw(), 0);
        CHECK.due("right", Check.close(map, 1, -7, 4, 0, 0, 0, 0, 4, 4, 4), 1);
        CHECK.ringDue("turned round", map, 1, 0, 0, 4, 0, 4, 4, 0, 4);
        CHECK.due("layer", map.told(1, 0), 1);
        CHECK.due("owner", map.told(1, 1), -7);
        CHECK.due("same x", Check.close(map, 2, 0, 5, 5, 3, -2, 3, -3), 2);
        CHECK.ringDue("the lesser y is ahead", map, 2, 3, -3, 5, 5, 3, -2);
        CHECK.due("flat corner", Check.close(map, 3, 0, 0, 0, 1, 0, 2, 0, 2, 2), 3);
        CHECK.ringDue("a flat corner stays", map, 3, 0, 0, 1, 0, 2, 0, 2, 2);
        double hair = Math.nextUp(1.0);
        CHECK.due("a sliver", Check.close(map, 3, 0, -1, -1, -2, -2, -3, -3 * hair), 4);
        CHECK.ringDue("a sliver", map, 4, -3, -3 * hair, -1, -1, -2, -2);
        CHECK.due("where stays 0", map.where(), 0);
    }

    private static void fewAndTwice() {
        ParcelMap map = new ParcelMap();
        CHECK.due("none", Check.close(map, 0, 0), ParcelMap.FEW);
        CHECK.due("none: where", map.where(), 0);
        CHECK.due("two", Check.close(map, 0, 0, 0, 0, 1, 1), ParcelMap.FEW);
        CHECK.due("two: where", map.where(), 2);
        CHECK.due("two: drawn still", map.count(3), 2);
        map.draw();
        for (int i = 0; i < 13; i++) {
            map.add(Check.corner(map, i, i * i));
        }
        CHECK.due("thirteen", map.close(0, 0), ParcelMap.FEW);
        CHECK.due("thirteen: where", map.where(), 13);
        map.draw();
        for (int i = 0; i < 12; i++) {
            map.add(Check.corner(map, i, i * i));
        }
        CHECK.due("twelve", map.close(0, 0), 0);
        CHECK.due("where stays", map.where(), 13);
        CHECK.due("few ahead of twice", Check.close(map, 1, 0, 0, 0, 0, 0), ParcelMap.FEW);
        CHECK.due("twice", Check.close(map, 1, 0, 0, 0, 1, 0, 2, 0, 1, 0, 0, 0), ParcelMap.TWICE);
        CHECK.due("twice: the first one's place least", map.where(), 4);
        CHECK.due("thrice", Check.close(map, 1, 0, 0, 0, 1, 0, 2, 3, 1, 0, 4, 4, 1, 0), ParcelMap.TWICE);
        CHECK.due("thrice: then the second's", map.where(), 3);
        CHECK.due("next to one another", Check.close(map, 1, 0, 0, 0, 3, 0, 3, 0, 0, 3), ParcelMap.TWICE);
        CHECK.due("next: where", map.where(), 2);
        CHECK.due("twice ahead of crossed", Check.close(map, 1, 0, 0, 0, 4, 4, 4, 0, 0, 4, 4, 4), ParcelMap.TWICE);
        CHECK.due("twice ahead: where", map.where(), 4);
    }

    private static void crossed() {
        ParcelMap map = new ParcelMap();
        CHECK.due("bow tie", Check.close(map, 0, 0, 0, 0, 4, 4, 4, 0, 0, 4), ParcelMap.CROSSED);
        CHECK.due("bow tie: where", map.where(), 2);
        CHECK.due("bow tie from elsewhere", Check.close(map, 0, 0, 4, 4, 4, 0, 0, 4, 0, 0), ParcelMap.CROSSED);
        CHECK.due("as drawn", map.where(), 103);
        CHECK.due("in line", Check.close(map, 0, 0, 0, 0, 2, 2, 1, 1), ParcelMap.CROSSED);
        CHECK.due("in line: where", map.where(), 1);
        CHECK.due("in line, last", Check.close(map, 0, 0, 0, 0, 1, 1, 2, 2), ParcelMap.CROSSED);
        CHECK.due("in line, last: where", map.where(), 2);
        CHECK.due("spike", Check.close(map, 0, 0, 0, 0, 4, 0, 4, 4, 4, 2, 0, 2), ParcelMap.CROSSED);
        CHECK.due("spike: where", map.where(), 102);
        CHECK.due("corner on an edge", Check.close(map, 0, 0, 0, 0, 4, 0, 4, 4, 2, 0, 0, 4), ParcelMap.CROSSED);
        CHECK.due("corner on an edge: where", map.where(), 2);
        CHECK.due("nothing made", map.count(2), 0);
        CHECK.due("still drawn", map.count(3), 5);
        CHECK.due("later pairs", Check.close(map, 0, 0, 0, 0, 9, 0, 9, 9, 6, 1, 3, 8, 8.8, 8, 0, 9), ParcelMap.CROSSED);
        CHECK.due("later pairs: where", map.where(), 204);
    }

    private static void crossedByAHair() {
        ParcelMap map = new ParcelMap();
        double up = Math.nextUp(1.0);
        CHECK.due("not in line by a hair", Check.close(map, 0, 0, 0, 0, 1, up, 3, 3), 0);
        CHECK.due("in line", Check.close(map, 1, 0, 0, 0, 1, 1, 3, 3), ParcelMap.CROSSED);
        CHECK.due("a notch that all but meets", Check.close(map, 2, 0, 0, 0, 4, 0, 4, 4, 2, 0x1p-20, 0, 4), 1);
    }

    private static void over() {
        ParcelMap map = new ParcelMap();
        Check.box(map, 0, 0, 0, 4, 4);
        Check.box(map, 0, 10, 0, 14, 4);
        CHECK.due("the same", Check.box(map, 0, 0, 0, 4, 4), ParcelMap.OVER);
        CHECK.due("the same: where", map.where(), 0);
        CHECK.due("the second", Check.box(map, 0, 11, 1, 15, 5), ParcelMap.OVER);
        CHECK.due("the second: where", map.where(), 1);
        CHECK.due("both", Check.box(map, 0, 3, 1, 11, 2), ParcelMap.OVER);
        CHECK.due("both: the least", map.where(), 0);
        CHECK.due("within", Check.box(map, 0, 11, 1, 12, 2), ParcelMap.OVER);
        CHECK.due("within: where", map.where(), 1);
        CHECK.due("around", Check.box(map, 0, -1, -1, 5, 5), ParcelMap.OVER);
        CHECK.due("around: where", map.where(), 0);
        CHECK.due("still drawn", map.count(3), 4);
        CHECK.due("another layer", map.close(1, 0), 2);
        map.drop(0);
        CHECK.due("one that is gone", Check.box(map, 0, 0, 0, 4, 4), 3);
    }

    /** Rings whose edges only touch, or run along one another, and that lie over each other. */
    private static void overWithoutCrossings() {
        ParcelMap map = new ParcelMap();
        Check.box(map, 0, 0, 0, 4, 4);
        CHECK.due("the same with a flat corner", Check.close(map, 0, 0, 0, 0, 2, 0, 4, 0, 4, 4, 0, 4), ParcelMap.OVER);
        CHECK.due("a diamond that touches", Check.close(map, 0, 0, 2, 0, 4, 2, 2, 4, 0, 2), ParcelMap.OVER);
        CHECK.due("a cut along corners", Check.close(map, 0, 0, 0, 0, 4, 4, 0, 4), ParcelMap.OVER);
        CHECK.due("an inner strip", Check.box(map, 0, 0, 1, 4, 2), ParcelMap.OVER);
        CHECK.due("a strip across", Check.box(map, 0, -1, 1, 5, 2), ParcelMap.OVER);
        CHECK.due("a strip across with its level edges", Check.box(map, 0, -1, 0, 5, 4), ParcelMap.OVER);
        CHECK.due("a half", Check.box(map, 0, 2, 0, 4, 4), ParcelMap.OVER);
        CHECK.due("through corners", Check.close(map, 0, 0, -1, -1, 5, 5, 5, 6), ParcelMap.OVER);
        CHECK.due("a sliver inside", Check.close(map, 0, 0, 0, 0, 4, 4, 3, Math.nextUp(3.0)), ParcelMap.OVER);
        CHECK.due("all at number 0", map.where(), 0);
        CHECK.due("none was made", map.count(2), 1);
        map = new ParcelMap();
        Check.close(map, 0, 0, 0, 0, 6, 0, 6, 6, 4, 6, 4, 2, 2, 2, 2, 6, 0, 6);
        CHECK.due("over the slot and a leg", Check.box(map, 0, 2, 3, 5, 4), ParcelMap.OVER);
        CHECK.due("a star through the legs", Check.close(map, 0, 0, 0, 6, 3, 1, 6, 6), ParcelMap.OVER);
        CHECK.due("in the slot", Check.box(map, 0, 2, 2, 4, 6), 1);
        CHECK.due("in the slot again", Check.close(map, 0, 0, 2, 2, 4, 2, 3, 3), ParcelMap.OVER);
        CHECK.due("in the slot: where", map.where(), 1);
    }

    private static void touching() {
        ParcelMap map = new ParcelMap();
        Check.box(map, 0, 0, 0, 4, 4);
        CHECK.due("an edge", Check.box(map, 0, 4, 0, 8, 4), 1);
        CHECK.due("parts of an edge", Check.box(map, 0, -2, 1, 0, 9), 2);
        CHECK.due("a corner", Check.box(map, 0, 4, 4, 5, 5), 3);
        CHECK.due("a corner on an edge", Check.close(map, 0, 0, 2, 4, 3, 6, 1, 6), 4);
        CHECK.due("in a gap", Check.close(map, 0, 0, 2, 4, 4, 4, 3, 6), 5);
        double low = Math.nextDown(4.0);
        CHECK.due("over by a hair", Check.close(map, 0, 0, 5, low, 6, 6, 5, 6), ParcelMap.OVER);
        CHECK.due("over by a hair: where", map.where(), 1);
        CHECK.due("a slanting edge", Check.close(map, 1, 0, 0, 0, 0.3, 0.1, 0, 3), 6);
        CHECK.due("the other side of it", Check.close(map, 1, 0, 0, 0, 0.3, 0.1, 3, -1), 7);
        CHECK.due("off it by a hair", Check.close(map, 1, 0, 0.1, Math.nextUp(0.1 / 3), 3, -9, 3, 9), ParcelMap.OVER);
    }

    private static void orderOfRefusals() {
        ParcelMap map = new ParcelMap();
        CHECK.due("layer ahead of few", map.close(4, 0), ParcelMap.OUTSIDE);
        CHECK.due("layer below", map.close(-1, 0), ParcelMap.OUTSIDE);
        CHECK.due("where stays", map.where(), 0);
        Check.box(map, 0, 0, 0, 2, 2);
        CHECK.due("crossed ahead of over", Check.close(map, 0, 0, 0, 0, 2, 2, 2, 0, 0, 2), ParcelMap.CROSSED);
        CHECK.due("where", map.where(), 2);
        CHECK.due("a refusal elsewhere", map.told(9, 9), ParcelMap.UNKNOWN);
        CHECK.due("leaves where", map.where(), 2);
    }

    private static void sixtyParcels() {
        ParcelMap map = Scenes.sixty();
        CHECK.due("made ever", map.count(2), 60);
        CHECK.due("the 61st", Check.box(map, 0, 0, -6, 1, -5), ParcelMap.FULL);
        CHECK.due("still drawn", map.count(3), 4);
        CHECK.due("full ahead of faults", Check.close(map, 0, 0), ParcelMap.FULL);
        CHECK.due("outside ahead of full", map.close(4, 0), ParcelMap.OUTSIDE);
        CHECK.due("apart ahead of full", map.split(0, 0, 1, 0), ParcelMap.APART);
        CHECK.due("drop", map.drop(59), 59);
        CHECK.due("no number twice", Check.box(map, 0, 0, -6, 1, -5), ParcelMap.FULL);
        CHECK.due("made ever, still", map.count(2), 60);
    }
}
