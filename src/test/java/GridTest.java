import java.util.ArrayList;
import java.util.Arrays;
import java.util.List;

/**
 * Rings without chance: all sound ones of a few corners on nine points, which are in line as often
 * as not. What is asked of each, and of each beside others, is asked of PlainMap too. Arguments,
 * if given: the most corners of a ring, and of how many pairs of rings one is tried.
 */
final class GridTest {
    private static final Check CHECK = new Check();
    private static final int ROWS = 3;
    private static final int POINTS = ROWS * ROWS;
    private static final int MOST = 8;

    private final List<int[]> rings = new ArrayList<>();

    public static void main(String[] args) {
        int most = args.length > 0 ? Integer.parseInt(args[0]) : 5;
        int every = args.length > 1 ? Integer.parseInt(args[1]) : 61;
        GridTest test = new GridTest();
        test.findRings(new int[MOST], 0, Math.min(most, MOST));
        CHECK.holds("there are rings: " + test.rings.size(), most != 5 || test.rings.size() == 458);
        test.pairs(every);
        for (int[] ring : test.rings) {
            new Pair().close(ring).alone(ring);
        }
        CHECK.finish();
    }

    /** One that stands as it was drawn is taken; so each comes once, of all its beginnings. */
    private void findRings(int[] ring, int size, int most) {
        if (size >= 3) {
            int[] drawn = Arrays.copyOf(ring, size);
            if (new Pair().close(drawn).stands(drawn)) {
                rings.add(drawn);
            }
        }
        for (int c = 0; c < POINTS && size < most; c++) {
            boolean free = true;
            for (int i = 0; i < size; i++) {
                free &= ring[i] != c;
            }
            if (free) {
                ring[size] = c;
                findRings(ring, size + 1, most);
            }
        }
    }

    private void pairs(int every) {
        int n = rings.size();
        for (int i = 0; i < n * n; i += every) {
            int[] first = rings.get(i / n);
            int[] second = rings.get(i % n);
            new Pair().close(first).close(second).beside(Arrays.toString(first) + Arrays.toString(second));
        }
    }

    /** The two programs with the nine points. */
    private static final class Pair {
        private final ParcelMap map = new ParcelMap();
        private final PlainMap plain = new PlainMap();

        Pair() {
            for (int c = 0; c < POINTS; c++) {
                long x = Check.bits(c / ROWS - 1);
                long y = Check.bits(c % ROWS - 1);
                map.corner(x, y);
                plain.corner(x, y);
            }
        }

        Pair close(int[] ring) {
            for (int c : ring) {
                map.add(c);
                plain.add(c);
            }
            String call = "close of " + Arrays.toString(ring);
            CHECK.due(call, map.close(0, 1), plain.close(0, 1));
            likeNow(call);
            return this;
        }

        boolean stands(int[] ring) {
            boolean same = map.told(0, 2) == ring.length;
            for (int i = 0; i < ring.length; i++) {
                same &= map.told(0, 3 + i) == ring[i];
            }
            return same;
        }

        private void likeNow(String call) {
            CHECK.due("where() after " + call, map.where(), plain.where());
            CHECK.due("digest() after " + call, map.digest(), plain.digest());
        }

        void beside(String rings) {
            CHECK.due("border of " + rings, map.border(0, 1), plain.border(0, 1));
            CHECK.due("hull of " + rings, map.hull(0), plain.hull(0));
            CHECK.due("quota of " + rings, map.quota(0, 7), plain.quota(0, 7));
            CHECK.due("join of " + rings, map.join(0, 1), plain.join(0, 1));
            likeNow("join of " + rings);
        }

        void alone(int[] ring) {
            String name = Arrays.toString(ring);
            for (int a = 0; a < POINTS; a++) {
                for (int b = 0; b < a; b++) {
                    CHECK.due("walk " + a + " " + b + " of " + name, map.walk(0, a, b, 0), plain.walk(0, a, b, 0));
                }
                long x = Check.bits(a / ROWS - 0.5);
                long y = Check.bits(a % ROWS - 0.5);
                CHECK.due("locate of " + name, map.locate(0, x, y), plain.locate(0, x, y));
                CHECK.due("edge of " + name, map.edge(), plain.edge());
            }
            for (int i = 0; i < ring.length; i++) {
                for (int c = 0; c < POINTS; c++) {
                    int answer = map.move(0, i, c);
                    CHECK.due("move " + i + " " + c + " of " + name, answer, plain.move(0, i, c));
                    goBack("move " + i + " " + c + " of " + name, answer);
                }
                for (int j = i + 1; j < ring.length; j++) {
                    int answer = map.split(0, i, j, 3);
                    CHECK.due("split " + i + " " + j + " of " + name, answer, plain.split(0, i, j, 3));
                    goBack("split " + i + " " + j + " of " + name, answer);
                }
            }
        }

        private void goBack(String call, int answer) {
            likeNow(call);
            if (answer >= 0) {
                map.undo();
                plain.undo();
            }
        }
    }
}
