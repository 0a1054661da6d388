import java.math.BigInteger;
import java.util.Random;

/** Promise 30: "31 times h, and it (as longs, wrapping)", by big numbers that do not wrap. */
final class DigestTest {
    private static final Check CHECK = new Check();

    public static void main(String[] args) {
        none();
        lastThatDoesNotWrap();
        firstThatWraps();
        wrapsToBothSides();
        owners();
        inOrder();
        thoseThatAreThere();
        nothingElse();
        CHECK.finish();
    }

    /** What the digest is without wrapping, by what told() tells. */
    private static BigInteger whole(ParcelMap map) {
        BigInteger h = BigInteger.valueOf(23);
        for (int p = 0; p < map.count(2); p++) {
            if (map.told(p, 0) != ParcelMap.UNKNOWN) {
                h = with(h, p);
                for (int what = 0; what < 3 + map.told(p, 2); what++) {
                    h = with(h, map.told(p, what));
                }
            }
        }
        return h;
    }

    private static BigInteger with(BigInteger h, long number) {
        return h.multiply(BigInteger.valueOf(31)).add(BigInteger.valueOf(number));
    }

    private static void none() {
        CHECK.due("nothing", new ParcelMap().digest(), 23);
    }

    private static int bow(ParcelMap map, int layer, int owner, int corners) {
        map.draw();
        for (int i = 0; i < corners; i++) {
            map.add(Check.corner(map, i, i * i));
        }
        return map.close(layer, owner);
    }

    /** 11 numbers: 23 times 31^11 is below 2^63. */
    private static void lastThatDoesNotWrap() {
        ParcelMap map = new ParcelMap();
        bow(map, 0, 0, 7);
        CHECK.holds("it does not wrap", whole(map).bitLength() <= 63);
        CHECK.due("seven corners", map.digest(), whole(map).longValueExact());
        CHECK.holds("it is not below 0", map.digest() > 0);
    }

    /** 12 numbers: 23 times 31^12 is above 2^63. */
    private static void firstThatWraps() {
        ParcelMap map = new ParcelMap();
        bow(map, 0, 0, 8);
        CHECK.holds("it wraps", whole(map).bitLength() > 63);
        CHECK.due("eight corners", map.digest(), whole(map).longValue());
        CHECK.holds("it is below 0", map.digest() < 0);
    }

    private static void wrapsToBothSides() {
        int above = 0;
        int below = 0;
        Random random = new Random(4);
        for (int run = 0; run < 40; run++) {
            ParcelMap map = new ParcelMap();
            for (int layer = 0; layer < 4; layer++) {
                bow(map, layer, random.nextInt(), 3 + random.nextInt(10));
            }
            CHECK.holds("it wraps", whole(map).bitLength() > 64);
            CHECK.due("run " + run, map.digest(), whole(map).longValue());
            above += map.digest() > 0 ? 1 : 0;
            below += map.digest() < 0 ? 1 : 0;
        }
        CHECK.holds("above 0 and below 0", above > 5 && below > 5);
    }

    /** Owners are ints, and go in as longs: the least one does not turn into anything else. */
    private static void owners() {
        for (int owner : new int[] {Integer.MIN_VALUE, Integer.MAX_VALUE, -1, 0, 1}) {
            ParcelMap map = new ParcelMap();
            bow(map, 2, owner, 3);
            long h = 23;
            for (long number : new long[] {0, 2, owner, 3, 0, 1, 2}) {
                h = 31 * h + number;
            }
            CHECK.due("owner " + owner, map.digest(), h);
            CHECK.due("owner " + owner + ", whole", whole(map).longValueExact(), h);
        }
    }

    /** By their numbers, whatever their layers are. */
    private static void inOrder() {
        ParcelMap map = new ParcelMap();
        bow(map, 3, 7, 3);
        bow(map, 0, 8, 4);
        bow(map, 1, 9, 5);
        long h = 23;
        for (long number : new long[] {0, 3, 7, 3, 0, 1, 2, 1, 0, 8, 4, 0, 1, 2, 3, 2, 1, 9, 5, 0, 1, 2, 3, 4}) {
            h = 31 * h + number;
        }
        CHECK.due("three of them", map.digest(), h);
    }

    private static void thoseThatAreThere() {
        ParcelMap map = new ParcelMap();
        bow(map, 0, 1, 3);
        bow(map, 1, 1, 3);
        long both = map.digest();
        map.drop(0);
        CHECK.due("one is gone", map.digest(), whole(map).longValue());
        CHECK.holds("that shows", map.digest() != both);
        map.undo();
        CHECK.due("it is back", map.digest(), both);
        map.give(1, 2);
        CHECK.due("another owner", map.digest(), whole(map).longValue());
        CHECK.holds("that shows too", map.digest() != both);
    }

    /** Corners, what is drawn, WHERE, what is found: none of it goes in. */
    private static void nothingElse() {
        ParcelMap map = new ParcelMap();
        bow(map, 0, 1, 3);
        long before = map.digest();
        Check.corner(map, 50, 50);
        map.draw();
        map.add(0);
        map.close(0, 0);
        map.side(0, 1, 2);
        map.locate(0, 0, 0);
        map.hull(0);
        CHECK.due("as it was", map.digest(), before);
    }
}
