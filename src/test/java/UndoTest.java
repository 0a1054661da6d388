import java.util.function.Consumer;

/**
 * Promise 28: "All PARCELS are as they were ahead of the latest close(), give(), drop(), split(),
 * join(), move() that was no refusal (numbers that were given stay so): 1. STATE: there is none, or
 * it was undone."
 */
final class UndoTest {
    private static final Check CHECK = new Check();

    public static void main(String[] args) {
        ofEachCall();
        ofTheLatestAlone();
        thereIsNone();
        itWasUndone();
        aNewChangeBehindAnUndo();
        numbersStayGiven();
        refusalsAreNoChange();
        otherCallsAreNoChange();
        changesThatChangeNothing();
        allButParcelsStays();
        ofAChangeToWhatCameBack();
        CHECK.finish();
    }

    /** Two boxes side by side and a third one in another layer; corners 8 to 10 for moves. */
    private static ParcelMap scene() {
        ParcelMap map = new ParcelMap();
        Check.box(map, 0, 0, 0, 4, 4);
        Check.box(map, 0, 4, 0, 8, 4);
        Check.box(map, 1, 0, 0, 4, 4);
        Check.corner(map, -2, 6);
        Check.corner(map, 9, 9);
        return map;
    }

    private static String parcels(ParcelMap map) {
        StringBuilder text = new StringBuilder();
        for (int p = 0; p < map.count(2); p++) {
            for (int what = 0; what < 15; what++) {
                text.append(map.told(p, what)).append(' ');
            }
            text.append(map.twice(p)).append('\n');
        }
        return text.append(map.digest()).toString();
    }

    private static void undoDue(String name, Consumer<ParcelMap> change) {
        ParcelMap map = scene();
        String before = parcels(scene());
        String unknown = "-101 ".repeat(15) + "-101\n";
        change.accept(map);
        CHECK.holds(name + " changes something", !parcels(map).equals(before));
        CHECK.due("undo of " + name, map.undo(), 1);
        // A number that was given and is gone again is unknown, and all the rest is as it was.
        CHECK.holds("all as ahead of " + name, parcels(map).replace(unknown, "").equals(before));
        CHECK.due("undo again of " + name, map.undo(), ParcelMap.STATE);
        CHECK.holds("all as ahead of " + name + " still", parcels(map).replace(unknown, "").equals(before));
    }

    private static void ofEachCall() {
        undoDue("close", m -> CHECK.due("close", Check.close(m, 2, 7, 0, 0, 4, 0, 4, 4), 3));
        undoDue("give", m -> CHECK.due("give", m.give(1, 9), 1));
        undoDue("drop of the first", m -> CHECK.due("drop", m.drop(0), 2));
        undoDue("drop of the last", m -> CHECK.due("drop", m.drop(2), 2));
        undoDue("split", m -> CHECK.due("split", m.split(0, 0, 2, 9), 3));
        undoDue("split, round", m -> CHECK.due("split", m.split(1, 1, 3, 9), 3));
        undoDue("join", m -> CHECK.due("join", m.join(0, 1), 6));
        undoDue("join, round", m -> CHECK.due("join", m.join(1, 0), 6));
        undoDue("move", m -> CHECK.due("move", m.move(0, 3, 6), 3));
        undoDue("move of the last", m -> CHECK.due("move", m.move(2, 2, 7), 2));
    }

    private static void ofTheLatestAlone() {
        ParcelMap map = scene();
        map.give(0, 20);
        map.give(1, 21);
        map.drop(2);
        CHECK.due("undo", map.undo(), 1);
        CHECK.due("the drop is undone", map.told(2, 1), 1);
        CHECK.due("the gift before is not", map.told(1, 1), 21);
        CHECK.due("nor the one before that", map.told(0, 1), 20);
        CHECK.due("no further", map.undo(), ParcelMap.STATE);
        CHECK.due("nothing more is undone", map.told(1, 1), 21);
    }

    private static void thereIsNone() {
        ParcelMap map = new ParcelMap();
        CHECK.due("new", map.undo(), ParcelMap.STATE);
        Check.draw(map, 0, 0, 4, 0, 4, 4);
        CHECK.due("a ring that is drawn is none", map.undo(), ParcelMap.STATE);
        CHECK.due("it is drawn still", map.count(3), 3);
        CHECK.due("close", map.close(0, 1), 0);
        CHECK.due("a close is one", map.undo(), 1);
    }

    private static void itWasUndone() {
        ParcelMap map = scene();
        CHECK.due("undo", map.undo(), 1);
        for (int i = 0; i < 3; i++) {
            CHECK.due("undo again", map.undo(), ParcelMap.STATE);
            CHECK.due("two are there", map.count(1), 2);
        }
    }

    private static void aNewChangeBehindAnUndo() {
        ParcelMap map = scene();
        map.give(0, 5);
        CHECK.due("undo", map.undo(), 1);
        map.give(0, 6);
        CHECK.due("undo of the new one", map.undo(), 1);
        CHECK.due("the owner it had", map.told(0, 1), 1);
        CHECK.due("and no further", map.undo(), ParcelMap.STATE);
    }

    /** "Numbers that were given stay so". */
    private static void numbersStayGiven() {
        ParcelMap map = scene();
        CHECK.due("split", map.split(0, 0, 2, 9), 3);
        CHECK.due("undo", map.undo(), 1);
        CHECK.due("made ever", map.count(2), 4);
        CHECK.due("there", map.count(1), 3);
        CHECK.due("number 3 is gone", map.told(3, 0), ParcelMap.UNKNOWN);
        CHECK.due("the same split", map.split(0, 0, 2, 9), 4);
        CHECK.due("undo of it", map.undo(), 1);
        CHECK.due("close", Check.close(map, 2, 7, 0, 0, 4, 0, 4, 4), 5);
        CHECK.due("undo of the close", map.undo(), 1);
        CHECK.due("made ever, six", map.count(2), 6);
        CHECK.due("join", map.join(0, 1), 6);
        CHECK.due("undo of the join", map.undo(), 1);
        CHECK.due("a join gives no number", map.count(2), 6);
    }

    private static void refusalsAreNoChange() {
        ParcelMap map = scene();
        map.give(0, 30);
        CHECK.due("close", Check.close(map, 0, 1, 1, 1, 2, 1, 2, 2), ParcelMap.OVER);
        CHECK.due("close on no layer", map.close(9, 1), ParcelMap.OUTSIDE);
        CHECK.due("give", map.give(9, 1), ParcelMap.UNKNOWN);
        CHECK.due("drop", map.drop(-1), ParcelMap.UNKNOWN);
        CHECK.due("split", map.split(0, 0, 1, 1), ParcelMap.APART);
        CHECK.due("join", map.join(0, 2), ParcelMap.OUTSIDE);
        CHECK.due("move", map.move(0, 0, 1), ParcelMap.TWICE);
        CHECK.due("undo", map.undo(), 1);
        CHECK.due("of the gift", map.told(0, 1), 1);
        CHECK.due("refused again", map.give(9, 1), ParcelMap.UNKNOWN);
        CHECK.due("a refusal is nothing to undo", map.undo(), ParcelMap.STATE);
    }

    private static void otherCallsAreNoChange() {
        ParcelMap map = scene();
        map.give(0, 30);
        Check.corner(map, 77, 77);
        map.draw();
        map.add(0);
        map.side(0, 1, 2);
        map.cross(0, 1, 2, 3);
        map.nearest(0, 0);
        map.locate(0, 0, 0);
        map.hull(0);
        map.walk(0, 0, 2, 0);
        map.quota(0, 10);
        CHECK.due("undo", map.undo(), 1);
        CHECK.due("of the gift", map.told(0, 1), 1);
    }

    /** A gift to the owner it has and a move to where it is are no refusals. */
    private static void changesThatChangeNothing() {
        ParcelMap map = scene();
        map.give(0, 30);
        CHECK.due("give the same", map.give(0, 30), 30);
        CHECK.due("undo", map.undo(), 1);
        CHECK.due("it was the latest one", map.told(0, 1), 30);
        map.give(0, 31);
        CHECK.due("move to the same", map.move(0, 2, 2), 2);
        CHECK.due("undo of it", map.undo(), 1);
        CHECK.due("that was the latest one", map.told(0, 1), 31);
    }

    /** "All PARCELS are as they were": corners, what is drawn, WHERE, what was found are not undone. */
    private static void allButParcelsStays() {
        ParcelMap map = scene();
        map.side(0, 1, 2);
        map.locate(0, Check.bits(4), Check.bits(2));
        CHECK.due("hull", map.hull(0), 4);
        Check.close(map, 0, 1, 0, 0, 4, 0, 0, 0);
        CHECK.due("where", map.where(), 2);
        Check.close(map, 2, 1, 0, 0, 50, 0, 50, 50);
        map.add(0);
        int corners = map.count(0);
        CHECK.due("undo", map.undo(), 1);
        CHECK.due("corners", map.count(0), corners);
        CHECK.due("drawn", map.count(3), 1);
        CHECK.due("where is as it was", map.where(), 2);
        CHECK.due("sure", map.sure(), 1);
        CHECK.due("edge", map.edge(), 1);
        CHECK.due("hullAt", map.hullAt(0), 0);
    }

    private static void ofAChangeToWhatCameBack() {
        ParcelMap map = scene();
        map.join(0, 1);
        map.undo();
        CHECK.due("drop of what came back", map.drop(1), 2);
        CHECK.due("undo of it", map.undo(), 1);
        CHECK.ringDue("its ring", map, 1, 4, 0, 8, 0, 8, 4, 4, 4);
        CHECK.due("where it lies none may lie", Check.box(map, 0, 5, 1, 6, 2), ParcelMap.OVER);
        CHECK.due("where", map.where(), 1);
    }
}
