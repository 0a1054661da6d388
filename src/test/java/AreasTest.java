/** Promises 25 to 27: twice, compare, quota. */
final class AreasTest {
    private static final Check CHECK = new Check();

    public static void main(String[] args) {
        twice();
        compare();
        quotas();
        quotasOfLikeRests();
        quotasByAHair();
        CHECK.finish();
    }

    private static void twice() {
        ParcelMap map = new ParcelMap();
        Check.box(map, 0, -0x1p28, -0x1p28, 0x1p28, 0x1p28);
        CHECK.due("the greatest", map.twice(0), 1L << 59);
        Check.close(map, 1, 0, 0, 0, 3, 0, 0, 5);
        CHECK.due("whole", map.twice(1), 15);
        Check.close(map, 1, 0, 0, -1, 0.75, -1, 0, -2);
        CHECK.due("rounded down", map.twice(2), 0);
        double low = Math.nextDown(5.0);
        Check.close(map, 2, 0, 0, 0, 3, 0, 0, low);
        CHECK.due("a hair below", map.twice(3), 14);
        Check.close(map, 2, 0, -3, -3, 0, -3, 0, -Math.nextDown(0.5), -3, -0.5);
        CHECK.due("a hair above", map.twice(4), 15);
        Check.close(map, 3, 0, 0x1p-20, 0x1p-20, Math.nextUp(0x1p-20), 0x1p-20, 0x1p-20, Math.nextUp(0x1p-20));
        CHECK.due("the least", map.twice(5), 0);
        double big = Math.nextDown(0x1p28);
        Check.box(map, 3, -big, -big, big, -1);
        CHECK.due("not quite the half", map.twice(6), (1L << 58) - (1L << 30) - 64);
        CHECK.due("unknown", map.twice(7), ParcelMap.UNKNOWN);
        CHECK.due("unknown below", map.twice(-1), ParcelMap.UNKNOWN);
        map.drop(6);
        CHECK.due("gone", map.twice(6), ParcelMap.UNKNOWN);
    }

    private static void compare() {
        ParcelMap map = new ParcelMap();
        Check.box(map, 0, 0, 0, 4, 4);
        Check.box(map, 1, 0, 0, 2, 8);
        Check.box(map, 2, 0, 0, 2, Math.nextUp(8.0));
        Check.close(map, 3, 0, 0, 0, 4, 0, 4, Math.nextDown(8.0));
        CHECK.due("like", map.compare(0, 1), 0);
        CHECK.due("less", map.compare(0, 2), -1);
        CHECK.due("more", map.compare(2, 1), 1);
        CHECK.due("a hair less", map.compare(3, 0), -1);
        CHECK.due("itself", map.compare(3, 3), 0);
        CHECK.due("unknown p", map.compare(4, 0), ParcelMap.UNKNOWN);
        CHECK.due("unknown q", map.compare(0, -1), ParcelMap.UNKNOWN);
        map.drop(1);
        CHECK.due("gone", map.compare(0, 1), ParcelMap.UNKNOWN);
    }

    private static void quotaDue(String call, ParcelMap map, int n, int... due) {
        for (int p = 0; p < due.length; p++) {
            CHECK.due(call + ": " + n + " for " + p, map.quota(p, n), due[p]);
        }
    }

    private static void quotas() {
        ParcelMap map = new ParcelMap();
        Check.box(map, 0, 0, 0, 1, 1);
        Check.box(map, 0, 1, 0, 3, 1);
        Check.box(map, 0, 3, 0, 7, 1);
        Check.box(map, 1, 0, 0, 9, 9);
        quotaDue("1 2 4", map, 7, 1, 2, 4, 7);
        quotaDue("1 2 4", map, 0, 0, 0, 0, 0);
        quotaDue("1 2 4", map, 1, 0, 0, 1, 1);
        quotaDue("1 2 4", map, 2, 0, 1, 1, 2);
        quotaDue("1 2 4", map, 3, 0, 1, 2, 3);
        quotaDue("1 2 4", map, 4, 1, 1, 2, 4);
        quotaDue("1 2 4", map, 1000, 143, 286, 571, 1000);
        CHECK.due("1001", map.quota(0, 1001), ParcelMap.OUTSIDE);
        CHECK.due("-1", map.quota(0, -1), ParcelMap.OUTSIDE);
        CHECK.due("unknown", map.quota(4, 1), ParcelMap.UNKNOWN);
        CHECK.due("unknown ahead of outside", map.quota(4, -1), ParcelMap.UNKNOWN);
        map.drop(2);
        quotaDue("1 2", map, 4, 1, 3);
        CHECK.due("gone", map.quota(2, 4), ParcelMap.UNKNOWN);
    }

    private static void quotasOfLikeRests() {
        ParcelMap map = new ParcelMap();
        Check.box(map, 0, 0, 0, 1, 1);
        Check.box(map, 0, 1, 0, 2, 1);
        Check.box(map, 0, 2, 0, 3, 1);
        quotaDue("thirds", map, 1, 1, 0, 0);
        quotaDue("thirds", map, 2, 1, 1, 0);
        quotaDue("thirds", map, 3, 1, 1, 1);
        quotaDue("thirds", map, 1000, 334, 333, 333);
    }

    private static void quotasByAHair() {
        ParcelMap map = new ParcelMap();
        Check.box(map, 0, 0, 0, 1, 1);
        Check.box(map, 0, 1, 0, 2, Math.nextUp(1.0));
        Check.box(map, 0, 2, 0, 3, 1);
        quotaDue("thirds and a hair", map, 1, 0, 1, 0);
        quotaDue("thirds and a hair", map, 2, 1, 1, 0);
        quotaDue("thirds and a hair", map, 3, 1, 1, 1);
        Check.box(map, 1, -0x1p28, -0x1p28, 0x1p28, 0x1p28);
        CHECK.due("the greatest", map.quota(3, 1000), 1000);
        double least = 0x1p-20;
        Check.box(map, 2, -0x1p28, -0x1p28, 0, 0x1p28);
        Check.box(map, 2, 0, 0, Math.nextUp(least), least);
        CHECK.due("the least of all", map.quota(5, 1000), 0);
        CHECK.due("all but the least", map.quota(4, 1000), 1000);
    }
}
