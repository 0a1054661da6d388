import java.math.BigDecimal;
import java.util.Random;

/**
 * "THE AREA of a PARCEL is exact. QUOTAS of a whole number n over a LAYER": the edges of twice(),
 * compare() and quota().
 */
final class QuotasTest {
    private static final Check CHECK = new Check();

    public static void main(String[] args) {
        roundedDown();
        roundedDownByAHair();
        comparedByAHair();
        cut();
        cutAtWholeNumbers();
        whatIsLeftGoesByOnes();
        greatestRests();
        restsByAHair();
        likeRestsToTheLesserNumber();
        overALayer();
        noneThatIsGone();
        allOfItIsGiven();
        areasAtTheLimits();
        CHECK.finish();
    }

    /** A box from (x, 0), so wide and so high. */
    private static int box(ParcelMap map, int layer, double x, double wide, double high) {
        return Check.box(map, layer, x, 0, x + wide, high);
    }

    private static void quotasDue(String name, ParcelMap map, int n, int... due) {
        for (int p = 0; p < due.length; p++) {
            CHECK.due(name + ": " + n + " for " + p, map.quota(p, n), due[p]);
        }
    }

    /** "Twice THE AREA, rounded down". */
    private static void roundedDown() {
        double[] high = {0.25, 0.5, 0.75, 1, 1.25, 1.5, 1.75, 2};
        ParcelMap map = new ParcelMap();
        for (int i = 0; i < high.length; i++) {
            box(map, 0, i, 1, high[i]);
            CHECK.due("twice " + high[i], map.twice(i), (long) Math.floor(2 * high[i]));
        }
        for (int i = 0; i < high.length; i++) {
            Check.close(map, 1, 5, i, 0, i + 1, 0, i, high[i]);
            CHECK.due("half of it, " + high[i], map.twice(8 + i), (long) Math.floor(high[i]));
        }
    }

    private static void roundedDownByAHair() {
        ParcelMap map = new ParcelMap();
        box(map, 0, 0, 1, 8);
        box(map, 0, 1, 1, Math.nextDown(8.0));
        box(map, 0, 2, 1, Math.nextUp(8.0));
        CHECK.due("16", map.twice(0), 16);
        CHECK.due("a hair less than 16", map.twice(1), 15);
        CHECK.due("a hair more than 16", map.twice(2), 16);
        double big = 0x1p28;
        Check.close(map, 1, 5, -big, -big, big, -big, big, big);
        CHECK.due("half of the greatest", map.twice(3), 1L << 58);
        Check.close(map, 2, 5, -big, -big, big, -big, Math.nextDown(big), big);
        CHECK.due("as high, as wide", map.twice(4), 1L << 58);
        Check.close(map, 3, 5, -big, -big, big, -big, big, Math.nextDown(big));
        CHECK.due("not as high", map.twice(5), (1L << 58) - 16);
    }

    private static void comparedByAHair() {
        ParcelMap map = new ParcelMap();
        double hair = 0x1p-20;
        Check.close(map, 0, 5, 0, 0, 0x1p28, 0, 0, 0x1p28);
        Check.close(map, 1, 5, 0, 0, 0x1p28, 0, 0x1p28, 0x1p28);
        Check.close(map, 2, 5, 0, 0, 0x1p28, 0, 0x1p28, hair, 0, 0x1p28);
        Check.close(map, 3, 5, hair, hair, 0x1p28, 0, 0, 0x1p28);
        CHECK.due("like ones", map.compare(0, 1), 0);
        CHECK.due("like ones, round", map.compare(1, 0), 0);
        CHECK.due("itself", map.compare(2, 2), 0);
        CHECK.due("more by a sliver", map.compare(2, 0), 1);
        CHECK.due("less by a sliver", map.compare(0, 2), -1);
        CHECK.due("a sliver is missing", map.compare(3, 0), -1);
        CHECK.due("of all layers", map.compare(2, 3), 1);
    }

    /** "To each PARCEL n times its AREA by the AREA of all, cut". */
    private static void cut() {
        ParcelMap map = new ParcelMap();
        box(map, 0, 0, 1, 1);
        box(map, 0, 1, 9, 1);
        quotasDue("1 and 9", map, 10, 1, 9);
        quotasDue("1 and 9", map, 20, 2, 18);
        quotasDue("1 and 9", map, 1000, 100, 900);
        quotasDue("1 and 9, 0.4 and 3.6", map, 4, 0, 4);
        quotasDue("1 and 9, 0.6 and 5.4", map, 6, 1, 5);
        quotasDue("1 and 9, 1.1 and 9.9", map, 11, 1, 10);
    }

    /** A share that is whole is not cut, one that is a hair below is. */
    private static void cutAtWholeNumbers() {
        ParcelMap map = new ParcelMap();
        box(map, 0, 0, 1, Math.nextDown(1.0));
        box(map, 0, 1, 1, 1);
        box(map, 0, 2, 1, 1);
        // The first one has a hair less than 1, 2, .. and the greatest rest.
        quotasDue("a hair less", map, 3, 1, 1, 1);
        quotasDue("a hair less", map, 4, 1, 2, 1);
        quotasDue("a hair less", map, 6, 2, 2, 2);
        quotasDue("a hair less", map, 999, 333, 333, 333);
        quotasDue("a hair less", map, 1000, 333, 334, 333);
    }

    /** "What is left goes by ones to those with the greatest rests": never two to one. */
    private static void whatIsLeftGoesByOnes() {
        ParcelMap map = new ParcelMap();
        double[] wide = {20, 20, 20, 20, 25};
        double x = 0;
        for (double w : wide) {
            box(map, 0, x, w, 1);
            x += w;
        }
        // 21 * 20 / 105 = 4, 21 * 25 / 105 = 5.
        quotasDue("all whole", map, 21, 4, 4, 4, 4, 5);
        // 3.81 for each of four, 4.76: 3 3 3 3 4 is 16, 4 are left.
        quotasDue("four are left", map, 20, 4, 4, 4, 4, 4);
        // 0.95 for each of four, 1.19: 4 are left, none for the last.
        quotasDue("four for four", map, 5, 1, 1, 1, 1, 1);
        // 0.19 for each of four, 0.24: the last one has the greatest rest.
        quotasDue("one is left", map, 1, 0, 0, 0, 0, 1);
        quotasDue("two are left", map, 2, 1, 0, 0, 0, 1);
    }

    private static void greatestRests() {
        ParcelMap map = new ParcelMap();
        double[] wide = {1, 2, 3, 4};
        double x = 0;
        for (double w : wide) {
            box(map, 0, x, w, 1);
            x += w;
        }
        quotasDue("0.1 0.2 0.3 0.4", map, 1, 0, 0, 0, 1);
        quotasDue("0.2 0.4 0.6 0.8", map, 2, 0, 0, 1, 1);
        quotasDue("0.3 0.6 0.9 1.2", map, 3, 0, 1, 1, 1);
        quotasDue("0.4 0.8 1.2 1.6", map, 4, 0, 1, 1, 2);
        quotasDue("0.5 1.0 1.5 2.0", map, 5, 1, 1, 1, 2);
        quotasDue("0.6 1.2 1.8 2.4", map, 6, 1, 1, 2, 2);
        quotasDue("0.7 1.4 2.1 2.8", map, 7, 1, 1, 2, 3);
    }

    private static void restsByAHair() {
        ParcelMap map = new ParcelMap();
        box(map, 0, 0, 1, 1);
        box(map, 0, 1, 1, 1);
        box(map, 0, 2, 1, Math.nextUp(1.0));
        quotasDue("a hair more", map, 1, 0, 0, 1);
        quotasDue("a hair more", map, 2, 1, 0, 1);
        quotasDue("a hair more", map, 4, 1, 1, 2);
        // A hair above 1: its rest is the least of all.
        quotasDue("a hair more", map, 3, 1, 1, 1);
        quotasDue("a hair more", map, 5, 2, 1, 2);
    }

    /** "Of like ones to the lesser number". */
    private static void likeRestsToTheLesserNumber() {
        ParcelMap map = new ParcelMap();
        for (int i = 0; i < 7; i++) {
            // From right to left, so that the lesser number is not the one ahead.
            box(map, 0, 20 - i, 1, 1);
        }
        for (int n = 0; n <= 14; n++) {
            for (int p = 0; p < 7; p++) {
                CHECK.due(n + " for " + p + " of 7", map.quota(p, n), n / 7 + (p < n % 7 ? 1 : 0));
            }
        }
        map = new ParcelMap();
        box(map, 0, 0, 3, 1);
        box(map, 0, 3, 1, 1);
        box(map, 0, 4, 1, 1);
        box(map, 0, 5, 3, 1);
        // 1.5 0.5 0.5 1.5: like rests of unlike shares.
        quotasDue("like rests", map, 4, 2, 1, 0, 1);
        quotasDue("like rests", map, 12, 5, 2, 1, 4);
    }

    private static void overALayer() {
        ParcelMap map = new ParcelMap();
        for (int layer = 0; layer < 4; layer++) {
            box(map, layer, 0, 1, 1);
        }
        quotasDue("one in each", map, 1000, 1000, 1000, 1000, 1000);
        box(map, 3, 1, 3, 1);
        quotasDue("two in the last", map, 1000, 1000, 1000, 1000, 250, 750);
    }

    private static void noneThatIsGone() {
        ParcelMap map = new ParcelMap();
        box(map, 0, 0, 1, 1);
        box(map, 0, 1, 1, 1);
        box(map, 0, 2, 2, 1);
        quotasDue("all", map, 100, 25, 25, 50);
        map.drop(0);
        CHECK.due("the first is gone", map.quota(0, 100), ParcelMap.UNKNOWN);
        CHECK.due("the second", map.quota(1, 100), 33);
        CHECK.due("the third", map.quota(2, 100), 67);
        map.undo();
        quotasDue("all again", map, 100, 25, 25, 50);
        map.join(0, 1);
        CHECK.due("joined", map.quota(0, 100), 50);
        map.split(2, 0, 2, 1);
        CHECK.due("split", map.quota(3, 100), 25);
        map.move(0, 0, Check.corner(map, -2, 0));
        CHECK.due("moved", map.quota(0, 100), 60);
        map.drop(0);
        map.drop(2);
        CHECK.due("alone", map.quota(3, 7), 7);
    }

    private static BigDecimal gap(double a, double b) {
        return new BigDecimal(a).subtract(new BigDecimal(b));
    }

    /** Its area. */
    private static BigDecimal boxOfAnySize(ParcelMap map, Random random, int i) {
        double x = i + random.nextDouble() * 0.9 + 0.1;
        double y = random.nextDouble() + 0.001;
        CHECK.due("box " + i, Check.box(map, 1, i, 0, x, y), i);
        return gap(x, i).multiply(gap(y, 0));
    }

    /** What all of a layer get is n, and each one gets its share, cut or one more. */
    private static void allOfItIsGiven() {
        Random random = new Random(9);
        for (int run = 0; run < 30; run++) {
            ParcelMap map = new ParcelMap();
            BigDecimal[] areas = new BigDecimal[1 + random.nextInt(20)];
            BigDecimal all = BigDecimal.ZERO;
            for (int p = 0; p < areas.length; p++) {
                areas[p] = boxOfAnySize(map, random, p);
                all = all.add(areas[p]);
            }
            int n = random.nextInt(1001);
            int sum = 0;
            for (int p = 0; p < areas.length; p++) {
                int share = map.quota(p, n);
                int cut = areas[p].multiply(new BigDecimal(n)).divideToIntegralValue(all).intValueExact();
                CHECK.holds("cut or one more: " + share + " of " + cut, share == cut || share == cut + 1);
                sum += share;
            }
            CHECK.due("all of n", sum, n);
        }
    }

    private static void areasAtTheLimits() {
        ParcelMap map = new ParcelMap();
        double least = 0x1p-20;
        double hair = Math.nextUp(least);
        Check.close(map, 0, 5, least, least, hair, least, least, hair);
        Check.close(map, 0, 5, hair, least, hair, hair, least, hair);
        quotasDue("the least ones", map, 1000, 500, 500);
        quotasDue("the least ones", map, 1, 1, 0);
        Check.box(map, 0, 1, -0x1p28, 0x1p28, 0x1p28);
        quotasDue("beside the greatest", map, 1000, 0, 0, 1000);
        quotasDue("beside the greatest", map, 1, 0, 0, 1);
        quotasDue("nothing", map, 0, 0, 0, 0);
    }
}
