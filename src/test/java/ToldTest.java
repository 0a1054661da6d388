/** Promises 28 to 30: undo, count, digest. */
final class ToldTest {
    private static final Check CHECK = new Check();

    public static void main(String[] args) {
        undoOfEach();
        undoOnce();
        undoAndRefusals();
        undoAndTheRest();
        count();
        digest();
        CHECK.finish();
    }

    private static ParcelMap twoBoxes() {
        ParcelMap map = new ParcelMap();
        Check.box(map, 0, 0, 0, 4, 4);
        Check.box(map, 0, 4, 0, 8, 4);
        return map;
    }

    private static void undoDue(String call, ParcelMap map, long before) {
        CHECK.holds(call + " changes something", map.digest() != before);
        CHECK.due("undo of " + call, map.undo(), 1);
        CHECK.due("digest behind the undo of " + call, map.digest(), before);
        CHECK.due("undo again of " + call, map.undo(), ParcelMap.STATE);
        CHECK.due("digest still, of " + call, map.digest(), before);
    }

    private static void undoOfEach() {
        ParcelMap map = twoBoxes();
        long before = map.digest();
        Check.box(map, 0, 8, 0, 9, 1);
        undoDue("close", map, before);
        map.give(1, 77);
        undoDue("give", map, before);
        map.drop(0);
        undoDue("drop", map, before);
        CHECK.due("split", map.split(1, 0, 2, 5), 3);
        undoDue("split", map, before);
        CHECK.due("join", map.join(0, 1), 6);
        undoDue("join", map, before);
        CHECK.due("join round", map.join(1, 0), 6);
        undoDue("join round", map, before);
        CHECK.due("move", map.move(0, 3, Check.corner(map, -5, 5)), 3);
        undoDue("move", map, before);
        CHECK.due("numbers stay", map.count(2), 4);
        CHECK.due("two there", map.count(1), 2);
        CHECK.due("the next number", Check.box(map, 0, 8, 0, 9, 1), 4);
    }

    private static void undoOnce() {
        ParcelMap map = twoBoxes();
        map.give(0, 8);
        map.give(0, 9);
        CHECK.due("undo", map.undo(), 1);
        CHECK.due("the latest one", map.told(0, 1), 8);
        CHECK.due("no further", map.undo(), ParcelMap.STATE);
        CHECK.due("owner stays", map.told(0, 1), 8);
        map.give(0, 8);
        CHECK.due("a change to the same", map.undo(), 1);
    }

    private static void undoAndRefusals() {
        ParcelMap map = twoBoxes();
        map.drop(0);
        map.drop(0);
        map.give(0, 1);
        map.split(1, 0, 1, 1);
        map.join(1, 1);
        map.move(1, 0, map.told(1, 4));
        Check.box(map, 0, 5, 1, 6, 2);
        CHECK.due("over", map.where(), 1);
        CHECK.due("refusals leave what is undone", map.undo(), 1);
        CHECK.due("the drop", map.count(1), 2);
        map = new ParcelMap();
        map.close(0, 0);
        map.drop(0);
        CHECK.due("refusals alone", map.undo(), ParcelMap.STATE);
    }

    private static void undoAndTheRest() {
        ParcelMap map = twoBoxes();
        Check.close(map, 0, 0, 0, 0, 1, 1);
        CHECK.due("where", map.where(), 2);
        map.add(Check.corner(map, 1, 0));
        CHECK.due("undo", map.undo(), 1);
        CHECK.due("drawn stays", map.count(3), 3);
        CHECK.due("corners stay", map.count(0), 8);
        CHECK.due("where stays", map.where(), 2);
        CHECK.due("the close is undone", map.told(1, 0), ParcelMap.UNKNOWN);
    }

    private static void count() {
        ParcelMap map = twoBoxes();
        Check.box(map, 1, 0, 0, 1, 1);
        Check.box(map, 3, 0, 0, 1, 1);
        Check.box(map, 3, 1, 0, 2, 1);
        map.drop(0);
        Check.draw(map, 0, 0, 1, 1);
        int[] due = {11, 4, 5, 2, 1, 1, 0, 2};
        for (int what = 0; what < due.length; what++) {
            CHECK.due("count " + what, map.count(what), due[what]);
        }
        CHECK.due("count 8", map.count(8), ParcelMap.OUTSIDE);
        CHECK.due("count -1", map.count(-1), ParcelMap.OUTSIDE);
        CHECK.due("count greatest", map.count(Integer.MAX_VALUE), ParcelMap.OUTSIDE);
    }

    private static void digest() {
        ParcelMap map = new ParcelMap();
        Check.corner(map, 9, 9);
        CHECK.due("nothing", map.digest(), 23);
        Check.close(map, 2, -5, 4, 0, 0, 3, 0, 0);
        Check.close(map, 3, Integer.MIN_VALUE, 4, 0, 0, 3, 0, 0);
        long h = 23;
        for (long part : new long[] {0, 2, -5, 3, 3, 1, 2, 1, 3, Integer.MIN_VALUE, 3, 3, 1, 2}) {
            h = 31 * h + part;
        }
        CHECK.due("two", map.digest(), h);
        map.drop(0);
        h = 23;
        for (long part : new long[] {1, 3, Integer.MIN_VALUE, 3, 3, 1, 2}) {
            h = 31 * h + part;
        }
        CHECK.due("one", map.digest(), h);
    }
}
