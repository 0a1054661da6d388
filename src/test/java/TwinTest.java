import java.util.Random;
import java.util.TreeMap;

/**
 * All promises: random runs of calls (always the same ones), each answered by ParcelMap and by
 * PlainMap alike. An argument, if given, is how many runs of each kind; a second one the seed.
 * What a run needs to know is asked of PlainMap, so that all of ParcelMap's 512 calls are compared.
 */
final class TwinTest {
    private static final int CALLS = 512;
    private static final int KINDS = 9;
    private static int wrong;
    private static final TreeMap<String, Integer> ANSWERS = new TreeMap<>();

    private final Random random;
    private final int kind;
    private final ParcelMap map = new ParcelMap();
    private final PlainMap plain = new PlainMap();
    private final StringBuilder run = new StringBuilder();
    private final double scale;
    private int calls;

    private TwinTest(long seed, int kind) {
        random = new Random(seed);
        this.kind = kind;
        scale = Math.scalb(1.0, random.nextInt(47) - 20);
    }

    public static void main(String[] args) {
        int runs = args.length > 0 ? Integer.parseInt(args[0]) : 12;
        long seed = args.length > 1 ? Long.parseLong(args[1]) : 1;
        for (int i = 0; i < runs; i++) {
            for (int kind = 0; kind < KINDS; kind++) {
                new TwinTest(seed * 1000003 + i * 10L + kind, kind).runAll();
            }
        }
        if (args.length > 0) {
            ANSWERS.forEach((answer, times) -> System.out.println(answer + ": " + times));
        }
        System.out.println(wrong == 0 ? "all as due" : wrong + " runs not as due");
        if (wrong != 0) {
            System.exit(1);
        }
    }

    private boolean same(String call, long got, long due) {
        if (calls >= CALLS) {
            // What later calls answer is free.
            return true;
        }
        calls++;
        run.append(call).append(" = ").append(due).append('\n');
        String name = call.substring(0, call.indexOf('('));
        String sort = due <= -100 && due >= -300 ? "" + due : due == -1 ? "NONE" : "done";
        ANSWERS.merge(name + " " + sort, 1, Integer::sum);
        if (got != due) {
            wrong++;
            System.out.println("kind " + kind + ":\n" + run + "but the answer was " + got);
            calls = CALLS;
            return false;
        }
        return true;
    }

    private void runAll() {
        if (isBricks()) {
            layBricks();
        }
        while (calls < CALLS) {
            if (random.nextInt(isBricks() ? 60 : 3) == 0) {
                drawOne();
            } else {
                one();
            }
            if (calls < CALLS && random.nextInt(4) == 0) {
                same("digest()", map.digest(), plain.digest());
                same("where()", map.where(), plain.where());
            }
        }
    }

    private boolean isBricks() {
        return kind == 6 || kind == 7;
    }

    private long number() {
        switch (kind) {
            case 0, 6, 7:
                return Check.bits(random.nextInt(5));
            case 1:
                return Check.bits(random.nextInt(9) - 4);
            case 2:
                // Tenths: in line in writing, and hardly ever so in doubles.
                return Check.bits(random.nextInt(6) * 0.1 + random.nextInt(2) * 0x1p-52);
            case 3:
                double[] far = {-0x1p28, 0x1p28, 0, 0x1p-20, -0x1p-20, Math.nextUp(0x1p-20),
                    Math.nextDown(0x1p28), 1, -1, 0x1p27};
                return Check.bits(far[random.nextInt(far.length)]);
            case 4:
                double near = 3 * (random.nextInt(4) - 1);
                int steps = random.nextInt(6) == 0 ? 1 : 0;
                return Check.bits(near == 0 ? 0 : near + steps * Math.ulp(near));
            case 8:
                // Whole numbers of any size: what is reckoned from them has but one part that is not 0.
                return Check.bits((random.nextInt(9) - 4) * scale);
            default:
                return Check.bits(random.nextInt(40) == 0 ? 0x1p-21 : (random.nextDouble() - 0.5) * 100);
        }
    }

    private int cornerAt(int x, int y) {
        long bitsX = Check.bits(x);
        long bitsY = Check.bits(y);
        int c = map.corner(bitsX, bitsY);
        same("corner(" + bitsX + ", " + bitsY + ")", c, plain.corner(bitsX, bitsY));
        return c;
    }

    /** Rows of parcels beside and above one another, so that there is much to join. */
    private void layBricks() {
        for (int y = 0; y < 4; y++) {
            int x = 0;
            while (x < 4) {
                int wide = kind == 6 ? 1 : 1 + random.nextInt(2);
                same("draw()", map.draw(), plain.draw());
                int[][] ring = {{x, y}, {x + wide, y}, {x + wide, y + 1}, {x, y + 1}};
                for (int[] at : ring) {
                    int c = cornerAt(at[0], at[1]);
                    same("add(" + c + ")", map.add(c), plain.add(c));
                }
                same("close(0, 0)", map.close(0, 0), plain.close(0, 0));
                x += wide;
            }
        }
    }

    private int corner() {
        int there = plain.count(0);
        if (there == 0 || random.nextInt(there < 25 ? 2 : 30) == 0) {
            long x = number();
            long y = number();
            same("corner(" + x + ", " + y + ")", map.corner(x, y), plain.corner(x, y));
            there = plain.count(0);
        }
        int c = random.nextInt(Math.max(1, there));
        return random.nextInt(60) == 0 ? random.nextInt(3) == 0 ? -1 : there : c;
    }

    private int parcel() {
        int made = plain.count(2);
        if (made > 0) {
            for (int tries = 0; tries < 3; tries++) {
                int p = random.nextInt(made);
                if (plain.told(p, 0) >= 0) {
                    return p;
                }
            }
        }
        return random.nextInt(made + 2) - 1;
    }

    private int layer() {
        return random.nextInt(30) == 0 ? random.nextInt(2) == 0 ? -1 : 4 : random.nextInt(2 + random.nextInt(3));
    }

    private int place(int p) {
        int n = Math.max(1, plain.told(p, 2));
        return random.nextInt(20) == 0 ? random.nextInt(2) == 0 ? -1 : n : random.nextInt(n);
    }

    private void drawOne() {
        if (random.nextInt(8) != 0) {
            same("draw()", map.draw(), plain.draw());
        }
        int n = random.nextInt(12) == 0 ? random.nextInt(22) : 3 + random.nextInt(random.nextInt(3) == 0 ? 7 : 2);
        int[] ring = new int[n];
        for (int i = 0; i < n; i++) {
            ring[i] = corner();
        }
        if (random.nextInt(3) != 0) {
            sortRound(ring);
        }
        for (int c : ring) {
            same("add(" + c + ")", map.add(c), plain.add(c));
        }
        int layer = layer();
        int owner = random.nextInt();
        same("close(" + layer + ", " + owner + ")", map.close(layer, owner), plain.close(layer, owner));
    }

    /** So that long rings are sound ones, more often than not. */
    private void sortRound(int[] ring) {
        double mx = 0;
        double my = 0;
        for (int c : ring) {
            mx += real(c, 0) / ring.length;
            my += real(c, 1) / ring.length;
        }
        Integer[] all = new Integer[ring.length];
        for (int i = 0; i < ring.length; i++) {
            all[i] = ring[i];
        }
        double x = mx + 0.01 * (kind == 8 ? scale : 1);
        double y = my + 0.013 * (kind == 8 ? scale : 1);
        java.util.Arrays.sort(all, (a, b) -> Double.compare(
                Math.atan2(real(a, 1) - y, real(a, 0) - x), Math.atan2(real(b, 1) - y, real(b, 0) - x)));
        int n = 0;
        for (int i = 0; i < ring.length; i++) {
            if (i == 0 || !all[i].equals(all[i - 1]) || random.nextInt(20) == 0) {
                ring[n++] = all[i];
            }
        }
        while (n < ring.length) {
            ring[n++] = corner();
        }
    }

    private double real(int c, int axis) {
        return c < 0 || c >= plain.count(0) ? 0 : Double.longBitsToDouble(plain.at(c, axis));
    }

    private void one() {
        switch (random.nextInt(isBricks() ? 14 : 7)) {
            case 0 -> ofCorners();
            case 1 -> ofShapes();
            case 2 -> ofShapes();
            case 3 -> ofFinding();
            case 4 -> ofAreas();
            case 5 -> ofNeighbours();
            case 6 -> ofState();
            default -> ofShapes();
        }
    }

    private void ofCorners() {
        int a = corner();
        int b = corner();
        int c = corner();
        int d = corner();
        int axis = random.nextInt(2 + random.nextInt(2));
        long x = number();
        long y = number();
        switch (random.nextInt(4)) {
            case 0 -> same("at(" + a + ", " + axis + ")", map.at(a, axis), plain.at(a, axis));
            case 1 -> {
                same("side(" + a + ", " + b + ", " + c + ")", map.side(a, b, c), plain.side(a, b, c));
                same("sure()", map.sure(), plain.sure());
            }
            case 2 -> same("cross(" + a + ", " + b + ", " + c + ", " + d + ")",
                    map.cross(a, b, c, d), plain.cross(a, b, c, d));
            default -> same("nearest(" + x + ", " + y + ")", map.nearest(x, y), plain.nearest(x, y));
        }
    }

    private void ofShapes() {
        int p = parcel();
        int q = parcel();
        int i = place(p);
        int j = place(p);
        int owner = random.nextInt(9);
        switch (random.nextInt(7)) {
            case 0, 1 -> {
                if (random.nextInt(5) != 0) {
                    int least = Math.min(i, j);
                    j = Math.max(i, j);
                    i = least;
                }
                same("split(" + p + ", " + i + ", " + j + ", " + owner + ")",
                        map.split(p, i, j, owner), plain.split(p, i, j, owner));
            }
            case 2, 3, 4 -> {
                int near = plain.neighbour(p, random.nextInt(2));
                q = near >= 0 && random.nextInt(4) != 0 ? near : q;
                same("join(" + p + ", " + q + ")", map.join(p, q), plain.join(p, q));
            }
            default -> {
                int c = corner();
                same("move(" + p + ", " + i + ", " + c + ")", map.move(p, i, c), plain.move(p, i, c));
            }
        }
    }

    private void ofFinding() {
        int layer = layer();
        int a = corner();
        int b = corner();
        int k = random.nextInt(4) - 1;
        long x = number();
        long y = number();
        switch (random.nextInt(4)) {
            case 0, 1 -> {
                same("locate(" + layer + ", " + x + ", " + y + ")", map.locate(layer, x, y), plain.locate(layer, x, y));
                same("edge()", map.edge(), plain.edge());
            }
            case 2 -> same("walk(" + layer + ", " + a + ", " + b + ", " + k + ")",
                    map.walk(layer, a, b, k), plain.walk(layer, a, b, k));
            default -> {
                same("hull(" + layer + ")", map.hull(layer), plain.hull(layer));
                int at = random.nextInt(6) - 1;
                same("hullAt(" + at + ")", map.hullAt(at), plain.hullAt(at));
            }
        }
    }

    private void ofAreas() {
        int p = parcel();
        int q = parcel();
        int n = random.nextInt(10) == 0 ? random.nextInt(3000) - 1000 : random.nextInt(12);
        switch (random.nextInt(3)) {
            case 0 -> same("twice(" + p + ")", map.twice(p), plain.twice(p));
            case 1 -> same("compare(" + p + ", " + q + ")", map.compare(p, q), plain.compare(p, q));
            default -> same("quota(" + p + ", " + n + ")", map.quota(p, n), plain.quota(p, n));
        }
    }

    private void ofNeighbours() {
        int p = parcel();
        int q = parcel();
        int k = random.nextInt(4) - 1;
        if (random.nextInt(2) == 0) {
            same("border(" + p + ", " + q + ")", map.border(p, q), plain.border(p, q));
        } else {
            same("neighbour(" + p + ", " + k + ")", map.neighbour(p, k), plain.neighbour(p, k));
        }
    }

    private void ofState() {
        int p = parcel();
        int owner = random.nextInt(9);
        int what = random.nextInt(18) - 1;
        switch (random.nextInt(6)) {
            case 0 -> same("told(" + p + ", " + what + ")", map.told(p, what), plain.told(p, what));
            case 1 -> same("give(" + p + ", " + owner + ")", map.give(p, owner), plain.give(p, owner));
            case 2 -> {
                if (random.nextInt(2) == 0) {
                    same("drop(" + p + ")", map.drop(p), plain.drop(p));
                }
            }
            case 3, 4 -> same("undo()", map.undo(), plain.undo());
            default -> same("count(" + what + ")", map.count(what), plain.count(what));
        }
    }
}
