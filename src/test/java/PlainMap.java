import java.math.BigInteger;
import java.util.ArrayList;
import java.util.Arrays;
import java.util.Collections;
import java.util.HashSet;
import java.util.List;
import java.util.TreeMap;
import java.util.TreeSet;

/**
 * The document once more, slowly: big fractions, and other ways to the same answers (slabs
 * for what lies over what, places along a segment for what it goes through).
 */
final class PlainMap {
    static final int NONE = -1, UNKNOWN = -101, OUTSIDE = -102, STATE = -103, FULL = -104,
            FEW = -201, TWICE = -202, CROSSED = -203, OVER = -204, APART = -205;

    record Point(Fraction x, Fraction y) implements Comparable<Point> {
        @Override
        public int compareTo(Point p) {
            int c = x.compareTo(p.x);
            return c != 0 ? c : y.compareTo(p.y);
        }
    }

    record Land(int layer, int owner, List<Integer> ring) { }

    private final List<Point> corners = new ArrayList<>();
    private final List<double[]> reals = new ArrayList<>();
    private TreeMap<Integer, Land> lands = new TreeMap<>();
    private TreeMap<Integer, Land> before;
    private List<Integer> drawn = new ArrayList<>();
    private List<Integer> hull = new ArrayList<>();
    private int made;
    private int where;
    private int sure = NONE;
    private int edge = NONE;

    // ---- corners

    private static boolean good(long bits) {
        double d = Math.abs(Double.longBitsToDouble(bits));
        return d == 0 || d >= Math.pow(2, -20) && d <= Math.pow(2, 28);
    }

    private static Point point(long x, long y) {
        return new Point(Fraction.of(Double.longBitsToDouble(x)), Fraction.of(Double.longBitsToDouble(y)));
    }

    int corner(long x, long y) {
        if (!good(x) || !good(y)) {
            return OUTSIDE;
        }
        Point p = point(x, y);
        if (corners.contains(p)) {
            return corners.indexOf(p);
        }
        if (corners.size() == 200) {
            return FULL;
        }
        corners.add(p);
        reals.add(new double[] {Double.longBitsToDouble(x) + 0.0, Double.longBitsToDouble(y) + 0.0});
        return corners.size() - 1;
    }

    private boolean no(int... cs) {
        for (int c : cs) {
            if (c < 0 || c >= corners.size()) {
                return true;
            }
        }
        return false;
    }

    long at(int c, int axis) {
        if (no(c)) {
            return UNKNOWN;
        }
        return axis < 0 || axis > 1 ? OUTSIDE : Double.doubleToLongBits(reals.get(c)[axis]);
    }

    private static int turn(Point a, Point b, Point c) {
        return a.x().minus(c.x()).times(b.y().minus(c.y()))
                .minus(a.y().minus(c.y()).times(b.x().minus(c.x()))).sign();
    }

    int side(int a, int b, int c) {
        if (no(a, b, c)) {
            return UNKNOWN;
        }
        double[] p = reals.get(a);
        double[] q = reals.get(b);
        double[] r = reals.get(c);
        double e = (p[0] - r[0]) * (q[1] - r[1]);
        double f = (p[1] - r[1]) * (q[0] - r[0]);
        sure = Math.abs(e - f) > (Math.abs(e) + Math.abs(f)) * Math.pow(2, -50) ? 1 : 0;
        return turn(corners.get(a), corners.get(b), corners.get(c));
    }

    int sure() {
        return sure;
    }

    /** Where along a b, from 0 to 1, the line c d is met; null if they are parallel. */
    private static Fraction met(Point a, Point b, Point c, Point d) {
        Fraction ux = b.x().minus(a.x());
        Fraction uy = b.y().minus(a.y());
        Fraction vx = d.x().minus(c.x());
        Fraction vy = d.y().minus(c.y());
        Fraction under = ux.times(vy).minus(uy.times(vx));
        if (under.sign() == 0) {
            return null;
        }
        Fraction over = c.x().minus(a.x()).times(vy).minus(c.y().minus(a.y()).times(vx));
        return over.by(under);
    }

    private static boolean unit(Fraction f) {
        return f.sign() >= 0 && f.compareTo(Fraction.ONE) <= 0;
    }

    private static int common(Point a, Point b, Point c, Point d) {
        Fraction s = met(a, b, c, d);
        if (s == null) {
            if (turn(a, b, c) != 0) {
                return 0;
            }
            Point from = Collections.max(List.of(Collections.min(List.of(a, b)), Collections.min(List.of(c, d))));
            Point to = Collections.min(List.of(Collections.max(List.of(a, b)), Collections.max(List.of(c, d))));
            int order = from.compareTo(to);
            return order > 0 ? 0 : order == 0 ? 2 : 3;
        }
        Fraction t = met(c, d, a, b);
        if (!unit(s) || !unit(t)) {
            return 0;
        }
        boolean ends = s.sign() == 0 || t.sign() == 0 || s.equals(Fraction.ONE) || t.equals(Fraction.ONE);
        return ends ? 2 : 1;
    }

    int cross(int a, int b, int c, int d) {
        if (no(a, b, c, d)) {
            return UNKNOWN;
        }
        if (a == b || c == d) {
            return OUTSIDE;
        }
        return common(corners.get(a), corners.get(b), corners.get(c), corners.get(d));
    }

    int nearest(long x, long y) {
        if (!good(x) || !good(y)) {
            return OUTSIDE;
        }
        Point p = point(x, y);
        int best = NONE;
        Fraction least = null;
        for (int c = 0; c < corners.size(); c++) {
            Fraction dx = corners.get(c).x().minus(p.x());
            Fraction dy = corners.get(c).y().minus(p.y());
            Fraction far = dx.times(dx).plus(dy.times(dy));
            if (least == null || far.compareTo(least) < 0) {
                least = far;
                best = c;
            }
        }
        return best;
    }

    // ---- drawing

    int draw() {
        int n = drawn.size();
        drawn = new ArrayList<>();
        return n;
    }

    int add(int c) {
        if (no(c)) {
            return UNKNOWN;
        }
        if (drawn.size() == 20) {
            return FULL;
        }
        drawn.add(c);
        return drawn.size();
    }

    private List<Point> points(List<Integer> ring) {
        List<Point> all = new ArrayList<>();
        for (int c : ring) {
            all.add(corners.get(c));
        }
        return all;
    }

    private int shape(List<Integer> ring) {
        int n = ring.size();
        if (n < 3 || n > 12) {
            where = n;
            return FEW;
        }
        for (int i = 0; i < n; i++) {
            int second = ring.subList(i + 1, n).indexOf(ring.get(i));
            if (second >= 0) {
                where = i + 1 + second;
                return TWICE;
            }
        }
        List<Point> r = points(ring);
        int least = Integer.MAX_VALUE;
        for (int i = 0; i < n; i++) {
            for (int j = 0; j < i; j++) {
                int common = common(r.get(i), r.get((i + 1) % n), r.get(j), r.get((j + 1) % n));
                boolean follow = (i + 1) % n == j || (j + 1) % n == i;
                if (common > (follow ? 2 : 0)) {
                    least = Math.min(least, 100 * j + i);
                }
            }
        }
        if (least != Integer.MAX_VALUE) {
            where = least;
            return CROSSED;
        }
        return 0;
    }

    private static Fraction twiceArea(List<Point> r) {
        Fraction sum = Fraction.ZERO;
        for (int i = 0; i < r.size(); i++) {
            Point a = r.get(i);
            Point b = r.get((i + 1) % r.size());
            sum = sum.plus(a.x().times(b.y()).minus(a.y().times(b.x())));
        }
        return sum;
    }

    private List<Integer> settled(List<Integer> ring) {
        List<Integer> out = new ArrayList<>(ring);
        if (twiceArea(points(out)).sign() < 0) {
            Collections.reverse(out);
        }
        List<Point> r = points(out);
        Collections.rotate(out, -r.indexOf(Collections.min(r)));
        return out;
    }

    /** The heights at which a ring's edges pass over x, which is no corner's. */
    private static List<Fraction> heights(List<Point> r, Fraction x) {
        List<Fraction> all = new ArrayList<>();
        for (int i = 0; i < r.size(); i++) {
            Point a = r.get(i);
            Point b = r.get((i + 1) % r.size());
            if (a.x().compareTo(x) < 0 != b.x().compareTo(x) < 0) {
                Fraction t = x.minus(a.x()).by(b.x().minus(a.x()));
                all.add(a.y().plus(b.y().minus(a.y()).times(t)));
            }
        }
        Collections.sort(all);
        return all;
    }

    private static boolean over(List<Point> p, List<Point> q) {
        TreeSet<Fraction> xs = new TreeSet<>();
        for (Point a : p) {
            xs.add(a.x());
        }
        for (Point a : q) {
            xs.add(a.x());
        }
        for (int i = 0; i < p.size(); i++) {
            for (int j = 0; j < q.size(); j++) {
                Point a = p.get(i);
                Point b = p.get((i + 1) % p.size());
                Fraction t = met(a, b, q.get(j), q.get((j + 1) % q.size()));
                if (t != null && unit(t)) {
                    xs.add(a.x().plus(b.x().minus(a.x()).times(t)));
                }
            }
        }
        Fraction last = null;
        for (Fraction x : xs) {
            if (last != null) {
                Fraction middle = last.plus(x).half();
                List<Fraction> hp = heights(p, middle);
                List<Fraction> hq = heights(q, middle);
                for (int i = 0; i + 1 < hp.size(); i += 2) {
                    for (int j = 0; j + 1 < hq.size(); j += 2) {
                        if (hp.get(i).compareTo(hq.get(j + 1)) < 0 && hq.get(j).compareTo(hp.get(i + 1)) < 0) {
                            return true;
                        }
                    }
                }
            }
            last = x;
        }
        return false;
    }

    private int fault(List<Integer> ring, int layer, int self) {
        int fault = shape(ring);
        if (fault != 0) {
            return fault;
        }
        for (int p : lands.keySet()) {
            if (p != self && lands.get(p).layer() == layer && over(points(ring), points(lands.get(p).ring()))) {
                where = p;
                return OVER;
            }
        }
        return 0;
    }

    private void keep() {
        before = new TreeMap<>(lands);
    }

    int close(int layer, int owner) {
        if (layer < 0 || layer > 3) {
            return OUTSIDE;
        }
        if (made == 60) {
            return FULL;
        }
        int fault = fault(drawn, layer, NONE);
        if (fault != 0) {
            return fault;
        }
        keep();
        lands.put(made, new Land(layer, owner, settled(drawn)));
        drawn = new ArrayList<>();
        return made++;
    }

    int where() {
        return where;
    }

    // ---- parcels

    int told(int p, int what) {
        Land land = lands.get(p);
        if (land == null) {
            return UNKNOWN;
        }
        if (what < 0 || what > 14) {
            return OUTSIDE;
        }
        List<Integer> all = new ArrayList<>(List.of(land.layer(), land.owner(), land.ring().size()));
        all.addAll(land.ring());
        return what < all.size() ? all.get(what) : NONE;
    }

    int give(int p, int owner) {
        Land land = lands.get(p);
        if (land == null) {
            return UNKNOWN;
        }
        keep();
        lands.put(p, new Land(land.layer(), owner, land.ring()));
        return land.owner();
    }

    int drop(int p) {
        if (!lands.containsKey(p)) {
            return UNKNOWN;
        }
        keep();
        lands.remove(p);
        return lands.size();
    }

    private static boolean onEdge(Point a, Point b, Point m) {
        return turn(a, b, m) == 0 && m.compareTo(Collections.min(List.of(a, b))) >= 0
                && m.compareTo(Collections.max(List.of(a, b))) <= 0;
    }

    /** The least edge with m on it; else -2 inside, -1 outside. */
    private static int place(List<Point> r, Point m) {
        boolean in = false;
        for (int i = 0; i < r.size(); i++) {
            Point a = r.get(i);
            Point b = r.get((i + 1) % r.size());
            if (onEdge(a, b, m)) {
                return i;
            }
            if (a.x().compareTo(m.x()) <= 0 != b.x().compareTo(m.x()) <= 0) {
                Fraction t = m.x().minus(a.x()).by(b.x().minus(a.x()));
                in ^= a.y().plus(b.y().minus(a.y()).times(t)).compareTo(m.y()) > 0;
            }
        }
        return in ? -2 : -1;
    }

    private static Point along(Point a, Point b, Fraction t) {
        return new Point(a.x().plus(b.x().minus(a.x()).times(t)), a.y().plus(b.y().minus(a.y()).times(t)));
    }

    /** The places from 0 to 1 where a b meets edges or runs past their ends. */
    private static TreeSet<Fraction> marks(List<Point> r, Point a, Point b) {
        TreeSet<Fraction> all = new TreeSet<>(List.of(Fraction.ZERO, Fraction.ONE));
        for (int i = 0; i < r.size(); i++) {
            Point c = r.get(i);
            Point d = r.get((i + 1) % r.size());
            Fraction t = met(a, b, c, d);
            if (t != null && unit(t) && onEdge(c, d, along(a, b, t))) {
                all.add(t);
            }
            if (turn(a, b, c) == 0) {
                Fraction dx = b.x().minus(a.x());
                Fraction s = dx.sign() != 0 ? c.x().minus(a.x()).by(dx) : c.y().minus(a.y()).by(b.y().minus(a.y()));
                if (unit(s)) {
                    all.add(s);
                }
            }
        }
        return all;
    }

    private static boolean through(List<Point> r, Point a, Point b) {
        Fraction last = null;
        for (Fraction t : marks(r, a, b)) {
            if (last != null && place(r, along(a, b, last.plus(t).half())) == -2) {
                return true;
            }
            last = t;
        }
        return false;
    }

    int split(int p, int i, int j, int owner) {
        Land land = lands.get(p);
        if (land == null) {
            return UNKNOWN;
        }
        int n = land.ring().size();
        if (i < 0 || j < 0 || i >= n || j >= n || i >= j) {
            return OUTSIDE;
        }
        List<Point> r = points(land.ring());
        if (j - i == 1 || i == 0 && j == n - 1 || marks(r, r.get(i), r.get(j)).size() != 2
                || !through(r, r.get(i), r.get(j))) {
            return APART;
        }
        if (made == 60) {
            return FULL;
        }
        keep();
        List<Integer> kept = new ArrayList<>(land.ring().subList(j, n));
        kept.addAll(land.ring().subList(0, i + 1));
        lands.put(p, new Land(land.layer(), land.owner(), settled(kept)));
        lands.put(made, new Land(land.layer(), owner, settled(land.ring().subList(i, j + 1))));
        return made++;
    }

    private static HashSet<List<Integer>> edges(List<Integer> ring, boolean round) {
        HashSet<List<Integer>> all = new HashSet<>();
        for (int i = 0; i < ring.size(); i++) {
            int a = ring.get(i);
            int b = ring.get((i + 1) % ring.size());
            all.add(round ? List.of(b, a) : List.of(a, b));
        }
        return all;
    }

    /** Turned so that the common edges are its last ones, in a row; null if they are not. */
    private static List<Integer> rowLast(List<Integer> ring, HashSet<List<Integer>> common) {
        int n = ring.size();
        for (int turn = 0; turn < n; turn++) {
            List<Integer> r = new ArrayList<>(ring);
            Collections.rotate(r, turn);
            boolean fits = true;
            for (int i = 0; i < n; i++) {
                fits &= common.contains(List.of(r.get(i), r.get((i + 1) % n))) == i >= n - common.size();
            }
            if (fits) {
                return r;
            }
        }
        return null;
    }

    int join(int p, int q) {
        Land a = lands.get(p);
        Land b = lands.get(q);
        if (a == null || b == null) {
            return UNKNOWN;
        }
        if (p == q || a.layer() != b.layer()) {
            return OUTSIDE;
        }
        HashSet<List<Integer>> commonP = edges(a.ring(), false);
        commonP.retainAll(edges(b.ring(), true));
        HashSet<List<Integer>> commonQ = edges(b.ring(), false);
        commonQ.retainAll(edges(a.ring(), true));
        int m = commonP.size();
        List<Integer> rp = rowLast(a.ring(), commonP);
        List<Integer> rq = rowLast(b.ring(), commonQ);
        if (m == 0 || rp == null || rq == null) {
            return APART;
        }
        List<Integer> all = new ArrayList<>(rp.subList(0, rp.size() - m + 1));
        all.addAll(rq.subList(1, rq.size() - m));
        int fault = shape(all);
        if (fault != 0) {
            return fault;
        }
        keep();
        lands.put(p, new Land(a.layer(), a.owner(), settled(all)));
        lands.remove(q);
        return all.size();
    }

    int move(int p, int i, int c) {
        Land land = lands.get(p);
        if (land == null || no(c)) {
            return UNKNOWN;
        }
        if (i < 0 || i >= land.ring().size()) {
            return OUTSIDE;
        }
        List<Integer> ring = new ArrayList<>(land.ring());
        int was = ring.set(i, c);
        int fault = fault(ring, land.layer(), p);
        if (fault != 0) {
            return fault;
        }
        keep();
        lands.put(p, new Land(land.layer(), land.owner(), settled(ring)));
        return was;
    }

    int border(int p, int q) {
        if (!lands.containsKey(p) || !lands.containsKey(q)) {
            return UNKNOWN;
        }
        if (p == q) {
            return OUTSIDE;
        }
        List<Point> a = points(lands.get(p).ring());
        List<Point> b = points(lands.get(q).ring());
        int sum = 0;
        for (int i = 0; i < a.size(); i++) {
            for (int j = 0; j < b.size(); j++) {
                sum += common(a.get(i), a.get((i + 1) % a.size()), b.get(j), b.get((j + 1) % b.size())) == 3 ? 1 : 0;
            }
        }
        return sum;
    }

    private static int kth(List<Integer> all, int k) {
        return k >= 0 && k < all.size() ? all.get(k) : NONE;
    }

    int neighbour(int p, int k) {
        if (!lands.containsKey(p)) {
            return UNKNOWN;
        }
        List<Integer> all = new ArrayList<>();
        for (int q : lands.keySet()) {
            if (lands.get(q).layer() == lands.get(p).layer() && border(p, q) > 0) {
                all.add(q);
            }
        }
        return kth(all, k);
    }

    // ---- finding

    int locate(int layer, long x, long y) {
        if (layer < 0 || layer > 3 || !good(x) || !good(y)) {
            return OUTSIDE;
        }
        edge = NONE;
        for (int p : lands.keySet()) {
            int place = lands.get(p).layer() == layer ? place(points(lands.get(p).ring()), point(x, y)) : -1;
            if (place != -1) {
                edge = Math.max(place, NONE);
                return p;
            }
        }
        return NONE;
    }

    int edge() {
        return edge;
    }

    int walk(int layer, int a, int b, int k) {
        if (no(a, b)) {
            return UNKNOWN;
        }
        if (layer < 0 || layer > 3 || a == b) {
            return OUTSIDE;
        }
        List<Integer> all = new ArrayList<>();
        for (int p : lands.keySet()) {
            if (lands.get(p).layer() == layer
                    && through(points(lands.get(p).ring()), corners.get(a), corners.get(b))) {
                all.add(p);
            }
        }
        return kth(all, k);
    }

    /** Round from the corner ahead of all, each time to the one with all others to the left. */
    int hull(int layer) {
        if (layer < 0 || layer > 3) {
            return OUTSIDE;
        }
        TreeSet<Point> all = new TreeSet<>();
        for (Land land : lands.values()) {
            if (land.layer() == layer) {
                all.addAll(points(land.ring()));
            }
        }
        if (all.isEmpty()) {
            return STATE;
        }
        hull = new ArrayList<>();
        Point at = all.first();
        do {
            hull.add(corners.indexOf(at));
            Point best = null;
            for (Point p : all) {
                if (!p.equals(at)) {
                    int turn = best == null ? -1 : turn(at, best, p);
                    if (turn < 0 || turn == 0 && onEdge(at, p, best)) {
                        best = p;
                    }
                }
            }
            at = best;
        } while (!at.equals(all.first()));
        return hull.size();
    }

    int hullAt(int k) {
        return kth(hull, k);
    }

    // ---- areas

    private Fraction area(int p) {
        return twiceArea(points(lands.get(p).ring()));
    }

    long twice(int p) {
        return lands.containsKey(p) ? area(p).down().longValueExact() : UNKNOWN;
    }

    int compare(int p, int q) {
        if (!lands.containsKey(p) || !lands.containsKey(q)) {
            return UNKNOWN;
        }
        return Integer.signum(area(p).compareTo(area(q)));
    }

    int quota(int p, int n) {
        if (!lands.containsKey(p)) {
            return UNKNOWN;
        }
        if (n < 0 || n > 1000) {
            return OUTSIDE;
        }
        List<Integer> all = new ArrayList<>();
        Fraction sum = Fraction.ZERO;
        for (int q : lands.keySet()) {
            if (lands.get(q).layer() == lands.get(p).layer()) {
                all.add(q);
                sum = sum.plus(area(q));
            }
        }
        TreeMap<Integer, Fraction> rests = new TreeMap<>();
        int[] cut = new int[60];
        int left = n;
        for (int q : all) {
            Fraction share = Fraction.of(n).times(area(q)).by(sum);
            BigInteger down = share.down();
            cut[q] = down.intValueExact();
            left -= cut[q];
            rests.put(q, share.minus(Fraction.of(cut[q])));
        }
        List<Integer> order = new ArrayList<>(all);
        order.sort((a, b) -> rests.get(b).compareTo(rests.get(a)));
        for (int i = 0; i < left; i++) {
            cut[order.get(i)]++;
        }
        return cut[p];
    }

    // ---- what is told

    int undo() {
        if (before == null) {
            return STATE;
        }
        lands = before;
        before = null;
        return 1;
    }

    int count(int what) {
        int[] all = {corners.size(), lands.size(), made, drawn.size(), 0, 0, 0, 0};
        for (Land land : lands.values()) {
            all[4 + land.layer()]++;
        }
        return what < 0 || what > 7 ? OUTSIDE : all[what];
    }

    long digest() {
        List<Integer> all = new ArrayList<>();
        lands.forEach((p, land) -> {
            all.addAll(Arrays.asList(p, land.layer(), land.owner(), land.ring().size()));
            all.addAll(land.ring());
        });
        long h = 23;
        for (int i : all) {
            h = 31 * h + i;
        }
        return h;
    }
}
