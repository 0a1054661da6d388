/**
 * A parcel map office: land in layers, bounded by corners that are pairs of doubles.
 * Every answer is exact. Nothing is made after the constructor, so that a long run of
 * calls takes no more room than a short one.
 */
public final class ParcelMap {
    public static final int NONE = -1, UNKNOWN = -101, OUTSIDE = -102, STATE = -103, FULL = -104,
            FEW = -201, TWICE = -202, CROSSED = -203, OVER = -204, APART = -205;

    private static final int MOST_CORNERS = 200;
    private static final int MOST_PARCELS = 60;
    private static final int LAYERS = 4;
    private static final int LEAST_IN_RING = 3;
    private static final int MOST_IN_RING = 12;
    private static final int MOST_DRAWN = 20;
    private static final int MOST_SHARED = 1000;
    private static final int SOUND = 0;

    private final Corners corners;
    private final Survey survey;
    private final Areas areas;
    private final History history;
    private final Parcel[] parcels;
    private final Ring drawn;
    private final Ring trial;
    private final Ring settled;
    private final Ring around;
    private int made;
    private int latestSure;
    private int latestEdge;

    public ParcelMap() {
        corners = new Corners();
        survey = new Survey(corners);
        areas = new Areas(corners);
        history = new History();
        parcels = new Parcel[MOST_PARCELS];
        for (int p = 0; p < MOST_PARCELS; p++) {
            parcels[p] = new Parcel();
        }
        drawn = new Ring(MOST_DRAWN);
        trial = new Ring(2 * MOST_IN_RING);
        settled = new Ring(MOST_IN_RING);
        // A hull in the making holds its lower part and, at worst, every corner again.
        around = new Ring(2 * MOST_CORNERS + 1);
        latestSure = NONE;
        latestEdge = NONE;
    }

    // ---- corners

    public int corner(long x, long y) {
        if (!Corners.isNumber(x) || !Corners.isNumber(y)) {
            return OUTSIDE;
        }
        int found = corners.find(x, y);
        if (found != NONE) {
            return found;
        }
        return corners.size < MOST_CORNERS ? corners.make(x, y) : FULL;
    }

    public long at(int c, int axis) {
        if (!corners.has(c)) {
            return UNKNOWN;
        }
        if (axis != 0 && axis != 1) {
            return OUTSIDE;
        }
        return Corners.bitsOf(axis == 0 ? corners.rankX[c] : corners.rankY[c]);
    }

    public int side(int a, int b, int c) {
        if (!corners.has(a) || !corners.has(b) || !corners.has(c)) {
            return UNKNOWN;
        }
        latestSure = corners.quickTurn(a, b, c) != 0 ? 1 : 0;
        return corners.turn(a, b, c, c);
    }

    public int sure() {
        return latestSure;
    }

    public int cross(int a, int b, int c, int d) {
        if (!corners.has(a) || !corners.has(b) || !corners.has(c) || !corners.has(d)) {
            return UNKNOWN;
        }
        if (a == b || c == d) {
            return OUTSIDE;
        }
        return corners.relation(a, b, c, d);
    }

    public int nearest(long x, long y) {
        if (!Corners.isNumber(x) || !Corners.isNumber(y)) {
            return OUTSIDE;
        }
        corners.write(Corners.POINT, x, y);
        int best = NONE;
        for (int c = 0; c < corners.size; c++) {
            if (best == NONE || corners.isNearer(c, best)) {
                best = c;
            }
        }
        return best;
    }

    // ---- drawing

    public int draw() {
        int before = drawn.size;
        drawn.clear();
        return before;
    }

    public int add(int c) {
        if (!corners.has(c)) {
            return UNKNOWN;
        }
        if (drawn.size >= MOST_DRAWN) {
            return FULL;
        }
        drawn.append(c);
        return drawn.size;
    }

    public int close(int layer, int owner) {
        if (!isLayer(layer)) {
            return OUTSIDE;
        }
        if (made >= MOST_PARCELS) {
            return FULL;
        }
        int fault = faultOf(drawn, layer, NONE);
        if (fault != SOUND) {
            return fault;
        }
        history.keep(parcels, made, NONE);
        establish(layer, owner, settled);
        drawn.clear();
        return made - 1;
    }

    public int where() {
        return survey.faultPlace;
    }

    // ---- parcels

    public int told(int p, int what) {
        if (!isThere(p)) {
            return UNKNOWN;
        }
        if (what < 0 || what > 2 + MOST_IN_RING) {
            return OUTSIDE;
        }
        Parcel parcel = parcels[p];
        if (what == 0) {
            return parcel.layer;
        }
        if (what == 1) {
            return parcel.owner;
        }
        if (what == 2) {
            return parcel.ring.size;
        }
        return what - 3 < parcel.ring.size ? parcel.ring.from(what - 3) : NONE;
    }

    public int give(int p, int owner) {
        if (!isThere(p)) {
            return UNKNOWN;
        }
        history.keep(parcels, p, NONE);
        int before = parcels[p].owner;
        parcels[p].owner = owner;
        return before;
    }

    public int drop(int p) {
        if (!isThere(p)) {
            return UNKNOWN;
        }
        history.keep(parcels, p, NONE);
        parcels[p].there = false;
        return howManyThere();
    }

    public int split(int p, int i, int j, int owner) {
        if (!isThere(p)) {
            return UNKNOWN;
        }
        Ring ring = parcels[p].ring;
        if (i < 0 || i >= j || j >= ring.size) {
            return OUTSIDE;
        }
        if (!survey.isCut(ring, i, j)) {
            return APART;
        }
        if (made >= MOST_PARCELS) {
            return FULL;
        }
        history.keep(parcels, p, made);
        trial.clear();
        trial.appendPart(ring, i, j);
        survey.settle(trial, settled);
        establish(parcels[p].layer, owner, settled);
        // Corner 0 stays with what is kept, so that needs no new beginning.
        ring.cutOut(i + 1, j);
        return made - 1;
    }

    public int join(int p, int q) {
        if (!isThere(p) || !isThere(q)) {
            return UNKNOWN;
        }
        if (p == q || parcels[p].layer != parcels[q].layer) {
            return OUTSIDE;
        }
        if (!survey.merge(parcels[p].ring, parcels[q].ring, trial)) {
            return APART;
        }
        int fault = survey.shapeFault(trial);
        if (fault != SOUND) {
            return fault;
        }
        history.keep(parcels, p, q);
        survey.settle(trial, parcels[p].ring);
        parcels[q].there = false;
        return parcels[p].ring.size;
    }

    public int move(int p, int i, int c) {
        if (!isThere(p) || !corners.has(c)) {
            return UNKNOWN;
        }
        Parcel parcel = parcels[p];
        if (i < 0 || i >= parcel.ring.size) {
            return OUTSIDE;
        }
        trial.copy(parcel.ring);
        int before = trial.exchange(i, c);
        int fault = faultOf(trial, parcel.layer, p);
        if (fault != SOUND) {
            return fault;
        }
        history.keep(parcels, p, NONE);
        parcel.ring.copy(settled);
        return before;
    }

    public int border(int p, int q) {
        if (!isThere(p) || !isThere(q)) {
            return UNKNOWN;
        }
        if (p == q) {
            return OUTSIDE;
        }
        return survey.sharedEdges(parcels[p].ring, parcels[q].ring);
    }

    public int neighbour(int p, int k) {
        if (!isThere(p)) {
            return UNKNOWN;
        }
        int seen = 0;
        for (int q = 0; q < made; q++) {
            if (q != p && parcels[q].isOn(parcels[p].layer)
                    && survey.sharedEdges(parcels[p].ring, parcels[q].ring) > 0) {
                if (seen == k) {
                    return q;
                }
                seen++;
            }
        }
        return NONE;
    }

    // ---- finding

    public int locate(int layer, long x, long y) {
        if (!isLayer(layer) || !Corners.isNumber(x) || !Corners.isNumber(y)) {
            return OUTSIDE;
        }
        corners.write(Corners.POINT, x, y);
        latestEdge = NONE;
        for (int p = 0; p < made; p++) {
            if (parcels[p].isOn(layer)) {
                int place = survey.placeOf(parcels[p].ring, Corners.POINT, Corners.POINT);
                if (place != Survey.BEYOND) {
                    latestEdge = place == Survey.WITHIN ? NONE : place;
                    return p;
                }
            }
        }
        return NONE;
    }

    public int edge() {
        return latestEdge;
    }

    public int walk(int layer, int a, int b, int k) {
        if (!corners.has(a) || !corners.has(b)) {
            return UNKNOWN;
        }
        if (!isLayer(layer) || a == b) {
            return OUTSIDE;
        }
        int seen = 0;
        for (int p = 0; p < made; p++) {
            if (parcels[p].isOn(layer) && survey.goesThrough(parcels[p].ring, a, b)) {
                if (seen == k) {
                    return p;
                }
                seen++;
            }
        }
        return NONE;
    }

    public int hull(int layer) {
        if (!isLayer(layer)) {
            return OUTSIDE;
        }
        if (howManyOn(layer) == 0) {
            return STATE;
        }
        survey.forgetMarks();
        for (int p = 0; p < made; p++) {
            if (parcels[p].isOn(layer)) {
                survey.mark(parcels[p].ring);
            }
        }
        survey.wrapMarked(around);
        return around.size;
    }

    public int hullAt(int k) {
        return k >= 0 && k < around.size ? around.from(k) : NONE;
    }

    // ---- areas

    public long twice(int p) {
        return isThere(p) ? areas.twiceDown(parcels[p].ring) : UNKNOWN;
    }

    public int compare(int p, int q) {
        if (!isThere(p) || !isThere(q)) {
            return UNKNOWN;
        }
        return areas.against(parcels[p].ring, parcels[q].ring);
    }

    public int quota(int p, int n) {
        if (!isThere(p)) {
            return UNKNOWN;
        }
        if (n < 0 || n > MOST_SHARED) {
            return OUTSIDE;
        }
        return areas.shareOf(parcels, p, n);
    }

    // ---- what is told

    public int undo() {
        return history.goBack(parcels) ? 1 : STATE;
    }

    public int count(int what) {
        if (what < 0 || what > 3 + LAYERS) {
            return OUTSIDE;
        }
        if (what == 0) {
            return corners.size;
        }
        if (what == 1) {
            return howManyThere();
        }
        if (what == 2) {
            return made;
        }
        return what == 3 ? drawn.size : howManyOn(what - 4);
    }

    public long digest() {
        long h = 23;
        for (int p = 0; p < made; p++) {
            Parcel parcel = parcels[p];
            if (parcel.there) {
                h = 31 * h + p;
                h = 31 * h + parcel.layer;
                h = 31 * h + parcel.owner;
                h = 31 * h + parcel.ring.size;
                for (int i = 0; i < parcel.ring.size; i++) {
                    h = 31 * h + parcel.ring.from(i);
                }
            }
        }
        return h;
    }

    // ---- what the calls have in common

    private static boolean isLayer(int layer) {
        return layer >= 0 && layer < LAYERS;
    }

    private boolean isThere(int p) {
        return p >= 0 && p < made && parcels[p].there;
    }

    private int howManyThere() {
        int sum = 0;
        for (int layer = 0; layer < LAYERS; layer++) {
            sum += howManyOn(layer);
        }
        return sum;
    }

    private int howManyOn(int layer) {
        int sum = 0;
        for (int p = 0; p < made; p++) {
            if (parcels[p].isOn(layer)) {
                sum++;
            }
        }
        return sum;
    }

    /** The first fault of a ring; a sound one stands in 'settled' afterwards. */
    private int faultOf(Ring ring, int layer, int meantToGo) {
        int fault = survey.shapeFault(ring);
        if (fault != SOUND) {
            return fault;
        }
        survey.settle(ring, settled);
        for (int p = 0; p < made; p++) {
            if (p != meantToGo && parcels[p].isOn(layer)
                    && survey.liesOver(settled, parcels[p].ring)) {
                survey.faultPlace = p;
                return OVER;
            }
        }
        return SOUND;
    }

    /** The callers have seen to it that there is a number left. */
    private void establish(int layer, int owner, Ring ring) {
        if (made < MOST_PARCELS) {
            Parcel parcel = parcels[made];
            parcel.there = true;
            parcel.layer = layer;
            parcel.owner = owner;
            parcel.ring.copy(ring);
            made++;
        }
    }

    /** Corners one behind the other; the last one is followed by the first one. */
    private static final class Ring {
        private final int[] row;
        int size;

        Ring(int room) {
            row = new int[room];
        }

        void clear() {
            size = 0;
        }

        void append(int c) {
            if (size < row.length) {
                row[size] = c;
                size++;
            }
        }

        void removeLast() {
            if (size > 0) {
                size--;
            }
        }

        void copy(Ring other) {
            size = 0;
            for (int i = 0; i < other.size; i++) {
                append(other.row[i]);
            }
        }

        void appendPart(Ring other, int first, int last) {
            for (int i = first; i <= last && i < other.size; i++) {
                append(other.row[i]);
            }
        }

        /** Takes out the corners from one place on to ahead of another. */
        void cutOut(int first, int behind) {
            int gap = behind - first;
            for (int i = behind; i < size; i++) {
                row[i - gap] = row[i];
            }
            size -= gap;
        }

        int exchange(int i, int c) {
            int before = row[i];
            row[i] = c;
            return before;
        }

        int from(int i) {
            return row[i];
        }

        int to(int i) {
            return row[next(i)];
        }

        int next(int i) {
            return i + 1 < size ? i + 1 : 0;
        }

        int previous(int i) {
            return i > 0 ? i - 1 : size - 1;
        }
    }

    private static final class Parcel {
        boolean there;
        int layer;
        int owner;
        final Ring ring;

        Parcel() {
            ring = new Ring(MOST_IN_RING);
        }

        boolean isOn(int asked) {
            return there && layer == asked;
        }

        void become(Parcel other) {
            there = other.there;
            layer = other.layer;
            owner = other.owner;
            ring.copy(other.ring);
        }
    }

    /** One step back. No change touches more than two parcels, so two are kept. */
    private static final class History {
        private final Parcel one;
        private final Parcel two;
        private int numberOne;
        private int numberTwo;
        private boolean open;

        History() {
            one = new Parcel();
            two = new Parcel();
            numberOne = NONE;
            numberTwo = NONE;
        }

        void keep(Parcel[] parcels, int first, int second) {
            numberOne = first;
            numberTwo = second;
            open = true;
            if (first >= 0 && first < parcels.length) {
                one.become(parcels[first]);
            }
            if (second >= 0 && second < parcels.length) {
                two.become(parcels[second]);
            }
        }

        boolean goBack(Parcel[] parcels) {
            if (!open) {
                return false;
            }
            open = false;
            if (numberOne >= 0 && numberOne < parcels.length) {
                parcels[numberOne].become(one);
            }
            if (numberTwo >= 0 && numberTwo < parcels.length) {
                parcels[numberTwo].become(two);
            }
            return true;
        }
    }

    /**
     * The corners, and behind them one place for a point that is only asked about.
     * A number stands here in three ways: as a rank (a long of the same order), as a
     * double for estimates, and as whole 2^-72ths for what must be exact: four parts of
     * 26 bits that all bear the number's sign, so that sums of their products stay
     * within a long.
     */
    private static final class Corners {
        static final int POINT = MOST_CORNERS;
        static final int PARTS = 4;
        static final int PART_BITS = 26;
        static final long PART_MASK = (1L << PART_BITS) - 1;
        private static final long SIGN = 1L << 63;
        private static final long BELOW_SIGN = ~SIGN;
        private static final int HEAD_BITS = 52;
        private static final int BIAS = 1023;
        private static final int LEAST_POWER = BIAS - 20;
        private static final int GREATEST_POWER = BIAS + 28;

        int size;
        final long[] rankX;
        final long[] rankY;
        private final double[] realX;
        private final double[] realY;
        private final long[] partX;
        private final long[] partY;
        private final int[] aheadOrder;
        private final long[] one;
        private final long[] two;
        private final long[] three;
        private final long[] four;

        Corners() {
            rankX = new long[MOST_CORNERS + 1];
            rankY = new long[MOST_CORNERS + 1];
            realX = new double[MOST_CORNERS + 1];
            realY = new double[MOST_CORNERS + 1];
            partX = new long[PARTS * (MOST_CORNERS + 1)];
            partY = new long[PARTS * (MOST_CORNERS + 1)];
            aheadOrder = new int[MOST_CORNERS];
            one = new long[PARTS];
            two = new long[PARTS];
            three = new long[PARTS];
            four = new long[PARTS];
        }

        static boolean isNumber(long bits) {
            long magnitude = bits & BELOW_SIGN;
            return magnitude == 0 || magnitude >= (long) LEAST_POWER << HEAD_BITS
                    && magnitude <= (long) GREATEST_POWER << HEAD_BITS;
        }

        static long rankOf(long bits) {
            long magnitude = bits & BELOW_SIGN;
            return bits < 0 ? -magnitude : magnitude;
        }

        static long bitsOf(long rank) {
            return rank < 0 ? SIGN - rank : rank;
        }

        boolean has(int c) {
            return c >= 0 && c < size;
        }

        int find(long x, long y) {
            long wantedX = rankOf(x);
            long wantedY = rankOf(y);
            for (int c = 0; c < size; c++) {
                if (rankX[c] == wantedX && rankY[c] == wantedY) {
                    return c;
                }
            }
            return NONE;
        }

        /** The caller has seen to it that there is room. */
        int make(long x, long y) {
            int made = size;
            write(made, x, y);
            int place = made;
            while (place > 0 && isAhead(made, aheadOrder[place - 1])) {
                aheadOrder[place] = aheadOrder[place - 1];
                place--;
            }
            aheadOrder[place] = made;
            size++;
            return made;
        }

        void write(int place, long x, long y) {
            rankX[place] = rankOf(x);
            rankY[place] = rankOf(y);
            realX[place] = realOf(x);
            realY[place] = realOf(y);
            writeParts(partX, place, x);
            writeParts(partY, place, y);
        }

        private static long headOf(long magnitude) {
            return magnitude & (1L << HEAD_BITS) - 1 | 1L << HEAD_BITS;
        }

        private static double realOf(long bits) {
            long magnitude = bits & BELOW_SIGN;
            if (magnitude == 0) {
                return 0.0;
            }
            // In two steps, since 2^72, the least number's divisor, is no long.
            int belowGreatest = GREATEST_POWER - (int) (magnitude >>> HEAD_BITS);
            double real = (double) headOf(magnitude)
                    / (double) (1L << HEAD_BITS + BIAS - GREATEST_POWER)
                    / (double) (1L << belowGreatest);
            return bits < 0 ? 0.0 - real : real;
        }

        private static void writeParts(long[] row, int place, long bits) {
            long magnitude = bits & BELOW_SIGN;
            int up = (int) (magnitude >>> HEAD_BITS) - LEAST_POWER;
            for (int k = 0; k < PARTS; k++) {
                int down = PART_BITS * k - up;
                long part = 0;
                if (magnitude != 0 && down < 64) {
                    part = down >= 0 ? headOf(magnitude) >>> down : headOf(magnitude) << -down;
                }
                part &= PART_MASK;
                row[PARTS * place + k] = bits < 0 ? -part : part;
            }
        }

        int inAheadOrder(int place) {
            return aheadOrder[place];
        }

        boolean isAhead(int a, int b) {
            return rankX[a] < rankX[b] || rankX[a] == rankX[b] && rankY[a] < rankY[b];
        }

        /** The side by the estimate, or 0 where that is not sure. */
        int quickTurn(int a, int b, int c) {
            double e = (realX[a] - realX[c]) * (realY[b] - realY[c]);
            double f = (realY[a] - realY[c]) * (realX[b] - realX[c]);
            double sizeE = e < 0.0 ? 0.0 - e : e;
            double sizeF = f < 0.0 ? 0.0 - f : f;
            double slack = (sizeE + sizeF) / (double) (1L << 50);
            if (e - f > slack) {
                return 1;
            }
            return f - e > slack ? -1 : 0;
        }

        /**
         * The side, from a to b, of the point halfway between s and t; a corner is
         * halfway between itself and itself. Twice all differences is what is reckoned
         * with, since half of a corner's number might need a bit that no part has.
         */
        int turn(int a, int b, int s, int t) {
            int quick = quickTurn(a, b, s);
            if (quick != 0 && (s == t || quickTurn(a, b, t) == quick)) {
                return quick;
            }
            for (int k = 0; k < PARTS; k++) {
                long x = partX[PARTS * s + k] + partX[PARTS * t + k];
                long y = partY[PARTS * s + k] + partY[PARTS * t + k];
                one[k] = 2 * partX[PARTS * a + k] - x;
                two[k] = 2 * partY[PARTS * b + k] - y;
                three[k] = 2 * partY[PARTS * a + k] - y;
                four[k] = 2 * partX[PARTS * b + k] - x;
            }
            return signOfProducts();
        }

        /** The sign of one times two less three times four, told by carrying upwards. */
        private int signOfProducts() {
            long carry = 0;
            boolean some = false;
            for (int k = 0; k < 2 * PARTS - 1; k++) {
                long sum = carry;
                for (int i = Math.max(0, k - PARTS + 1); i <= Math.min(k, PARTS - 1); i++) {
                    sum += one[i] * two[k - i] - three[i] * four[k - i];
                }
                some = some || (sum & PART_MASK) != 0;
                carry = sum >> PART_BITS;
            }
            // What is left below the carry is no less than 0, and less than the carry's 1.
            if (carry < 0) {
                return -1;
            }
            return carry > 0 || some ? 1 : 0;
        }

        int overX(int c, int s, int t) {
            return over(rankX, partX, c, s, t);
        }

        int overY(int c, int s, int t) {
            return over(rankY, partY, c, s, t);
        }

        /** The sign of c less what is halfway between s and t. */
        private static int over(long[] rank, long[] part, int c, int s, int t) {
            int overS = rank[c] < rank[s] ? -1 : rank[c] > rank[s] ? 1 : 0;
            int overT = rank[c] < rank[t] ? -1 : rank[c] > rank[t] ? 1 : 0;
            if (overS * overT >= 0) {
                return overS != 0 ? overS : overT;
            }
            long carry = 0;
            boolean some = false;
            for (int k = 0; k < PARTS; k++) {
                long sum = carry + 2 * part[PARTS * c + k]
                        - part[PARTS * s + k] - part[PARTS * t + k];
                some = some || (sum & PART_MASK) != 0;
                carry = sum >> PART_BITS;
            }
            if (carry < 0) {
                return -1;
            }
            return carry > 0 || some ? 1 : 0;
        }

        /** One column, of weight 2^(26 k), of the product that an area sums up. */
        long column(int u, int v, int k) {
            long sum = 0;
            for (int i = Math.max(0, k - PARTS + 1); i <= Math.min(k, PARTS - 1); i++) {
                int j = k - i;
                sum += partX[PARTS * u + i] * partY[PARTS * v + j]
                        - partX[PARTS * v + i] * partY[PARTS * u + j];
            }
            return sum;
        }

        /** What two segments have in common, as the call cross() tells it. */
        int relation(int a, int b, int c, int d) {
            if (areApart(rankX, a, b, c, d) || areApart(rankY, a, b, c, d)) {
                return 0;
            }
            int sideC = turn(a, b, c, c);
            int sideD = turn(a, b, d, d);
            if (sideC == 0 && sideD == 0) {
                return relationInLine(a, b, c, d);
            }
            if (sideC * sideD > 0) {
                return 0;
            }
            int sideA = turn(c, d, a, a);
            int sideB = turn(c, d, b, b);
            if (sideA * sideB > 0) {
                return 0;
            }
            return sideA * sideB * sideC * sideD != 0 ? 1 : 2;
        }

        private static boolean areApart(long[] rank, int a, int b, int c, int d) {
            return Math.max(rank[a], rank[b]) < Math.min(rank[c], rank[d])
                    || Math.max(rank[c], rank[d]) < Math.min(rank[a], rank[b]);
        }

        private int relationInLine(int a, int b, int c, int d) {
            boolean abAhead = isAhead(a, b);
            boolean cdAhead = isAhead(c, d);
            int firstAB = abAhead ? a : b;
            int firstCD = cdAhead ? c : d;
            int lastAB = abAhead ? b : a;
            int lastCD = cdAhead ? d : c;
            int first = isAhead(firstAB, firstCD) ? firstCD : firstAB;
            int last = isAhead(lastAB, lastCD) ? lastAB : lastCD;
            if (first == last) {
                return 2;
            }
            return isAhead(first, last) ? 3 : 0;
        }

        /** Whether corner a is nearer to the point that is asked about than corner b. */
        boolean isNearer(int a, int b) {
            double squareA = quickSquare(a);
            double squareB = quickSquare(b);
            double gap = squareA - squareB;
            // Each square is off by less than 5 parts in 2^53, so 16 of them are enough.
            double slack = (squareA + squareB) / (double) (1L << 49);
            if (gap > slack || 0.0 - gap > slack) {
                return gap < 0.0;
            }
            for (int k = 0; k < PARTS; k++) {
                long ax = partX[PARTS * a + k];
                long bx = partX[PARTS * b + k];
                long ay = partY[PARTS * a + k];
                long by = partY[PARTS * b + k];
                one[k] = ax - bx;
                two[k] = ax + bx - 2 * partX[PARTS * POINT + k];
                three[k] = by - ay;
                four[k] = ay + by - 2 * partY[PARTS * POINT + k];
            }
            return signOfProducts() < 0;
        }

        private double quickSquare(int c) {
            double x = realX[c] - realX[POINT];
            double y = realY[c] - realY[POINT];
            return x * x + y * y;
        }
    }

    /** What is told of rings, by the sides of their corners alone. */
    private static final class Survey {
        static final int BEYOND = -1;
        static final int WITHIN = -2;

        int faultPlace;
        private final Corners corners;
        private final int[] stops;
        private final boolean[] marked;
        private int stopsSize;

        Survey(Corners corners) {
            this.corners = corners;
            stops = new int[MOST_IN_RING + 2];
            marked = new boolean[MOST_CORNERS];
        }

        /** FEW, TWICE or CROSSED, with the place of the fault; else SOUND. */
        int shapeFault(Ring ring) {
            if (ring.size < LEAST_IN_RING || ring.size > MOST_IN_RING) {
                faultPlace = ring.size;
                return FEW;
            }
            int place = placeOfTwice(ring);
            if (place != NONE) {
                faultPlace = place;
                return TWICE;
            }
            place = placeOfCrossed(ring);
            if (place != NONE) {
                faultPlace = place;
                return CROSSED;
            }
            return SOUND;
        }

        private static int placeOfTwice(Ring ring) {
            for (int i = 0; i < ring.size; i++) {
                for (int j = i + 1; j < ring.size; j++) {
                    if (ring.from(i) == ring.from(j)) {
                        return j;
                    }
                }
            }
            return NONE;
        }

        private int placeOfCrossed(Ring ring) {
            for (int i = 0; i < ring.size; i++) {
                for (int j = i + 1; j < ring.size; j++) {
                    int common = corners.relation(ring.from(i), ring.to(i), ring.from(j), ring.to(j));
                    boolean follow = ring.next(i) == j || ring.next(j) == i;
                    if (follow ? common == 3 : common != 0) {
                        return 100 * i + j;
                    }
                }
            }
            return NONE;
        }

        /** A sound ring as a parcel bears it: to the left, from the corner ahead of all. */
        void settle(Ring from, Ring to) {
            int first = 0;
            for (int i = 1; i < from.size; i++) {
                if (corners.isAhead(from.from(i), from.from(first))) {
                    first = i;
                }
            }
            int before = from.from(from.previous(first));
            int behind = from.to(first);
            // The ring bends there as it turns in all, since no corner lies further out.
            boolean left = corners.turn(before, from.from(first), behind, behind) > 0;
            to.clear();
            int place = first;
            for (int i = 0; i < from.size; i++) {
                to.append(from.from(place));
                place = left ? from.next(place) : from.previous(place);
            }
        }

        /** The least edge with the point halfway between s and t on it, else WITHIN or BEYOND. */
        int placeOf(Ring ring, int s, int t) {
            boolean within = false;
            int over = corners.overY(ring.from(0), s, t);
            for (int i = 0; i < ring.size; i++) {
                int a = ring.from(i);
                int b = ring.to(i);
                int overA = over;
                int overB = corners.overY(b, s, t);
                over = overB;
                if (overA * overB > 0) {
                    continue;
                }
                int side = corners.turn(a, b, s, t);
                if (side == 0 && corners.overX(a, s, t) * corners.overX(b, s, t) <= 0) {
                    return i;
                }
                boolean rises = overA <= 0 && overB > 0;
                boolean falls = overA > 0 && overB <= 0;
                if (rises && side > 0 || falls && side < 0) {
                    within = !within;
                }
            }
            return within ? WITHIN : BEYOND;
        }

        /** Whether the segment has a point inside of the ring. */
        boolean goesThrough(Ring ring, int a, int b) {
            for (int i = 0; i < ring.size; i++) {
                if (corners.relation(a, b, ring.from(i), ring.to(i)) == 1) {
                    return true;
                }
            }
            // Between one stop and the next no edge begins, ends or is crossed: all that
            // is between them lies as the point halfway does.
            gatherStops(ring, a, b);
            for (int i = 1; i < stopsSize; i++) {
                if (placeOf(ring, stops[i - 1], stops[i]) == WITHIN) {
                    return true;
                }
            }
            return false;
        }

        private void gatherStops(Ring ring, int a, int b) {
            boolean forward = corners.isAhead(a, b);
            int first = forward ? a : b;
            int last = forward ? b : a;
            stopsSize = 0;
            insertStop(first);
            insertStop(last);
            for (int i = 0; i < ring.size; i++) {
                int c = ring.from(i);
                if (corners.isAhead(first, c) && corners.isAhead(c, last)
                        && corners.turn(a, b, c, c) == 0) {
                    insertStop(c);
                }
            }
        }

        private void insertStop(int c) {
            if (stopsSize < stops.length) {
                int place = stopsSize;
                while (place > 0 && corners.isAhead(c, stops[place - 1])) {
                    stops[place] = stops[place - 1];
                    place--;
                }
                stops[place] = c;
                stopsSize++;
            }
        }

        /**
         * Whether the insides of two settled rings meet. If neither has an edge that goes
         * through the other, each inside is all within or all without the other one: they
         * are the same then, with edges along one another, or they are apart.
         */
        boolean liesOver(Ring p, Ring q) {
            if (areParted(corners.rankX, p, q) || areParted(corners.rankY, p, q)) {
                return false;
            }
            for (int i = 0; i < p.size; i++) {
                if (goesThrough(q, p.from(i), p.to(i)) || runsAlong(q, p.from(i), p.to(i))) {
                    return true;
                }
            }
            for (int j = 0; j < q.size; j++) {
                if (goesThrough(p, q.from(j), q.to(j))) {
                    return true;
                }
            }
            return false;
        }

        private static boolean areParted(long[] rank, Ring p, Ring q) {
            return greatest(rank, p) <= least(rank, q) || greatest(rank, q) <= least(rank, p);
        }

        private static long least(long[] rank, Ring ring) {
            long best = rank[ring.from(0)];
            for (int i = 1; i < ring.size; i++) {
                best = Math.min(best, rank[ring.from(i)]);
            }
            return best;
        }

        private static long greatest(long[] rank, Ring ring) {
            long best = rank[ring.from(0)];
            for (int i = 1; i < ring.size; i++) {
                best = Math.max(best, rank[ring.from(i)]);
            }
            return best;
        }

        /** Whether an edge of the ring shares more than a point with a b, and its direction. */
        private boolean runsAlong(Ring ring, int a, int b) {
            for (int i = 0; i < ring.size; i++) {
                int c = ring.from(i);
                int d = ring.to(i);
                if (corners.isAhead(a, b) == corners.isAhead(c, d)
                        && corners.relation(a, b, c, d) == 3) {
                    return true;
                }
            }
            return false;
        }

        /** Whether all between the corners at two places lies inside of the ring. */
        boolean isCut(Ring ring, int i, int j) {
            int a = ring.from(i);
            int b = ring.from(j);
            for (int k = 0; k < ring.size; k++) {
                boolean meets = k == i || k == j || ring.next(k) == i || ring.next(k) == j;
                int common = corners.relation(a, b, ring.from(k), ring.to(k));
                if (meets ? common == 3 : common != 0) {
                    return false;
                }
            }
            return placeOf(ring, a, b) == WITHIN;
        }

        /**
         * Both rings without their common edges, begun behind those edges in p; false if
         * they have none, or not all in a row. No corner stands twice in a ring, so what
         * is in a row in p is in a row in q too.
         */
        boolean merge(Ring p, Ring q, Ring merged) {
            int begin = behindCommon(p, q);
            if (begin == NONE) {
                return false;
            }
            merged.clear();
            int place = begin;
            for (int i = 0; i < p.size && twin(p, place, q) == NONE; i++) {
                merged.append(p.from(place));
                place = p.next(place);
            }
            int twinPlace = twin(p, place, q);
            if (twinPlace == NONE) {
                return false;
            }
            place = q.next(twinPlace);
            for (int i = 0; i < q.size && q.from(place) != p.from(begin); i++) {
                merged.append(q.from(place));
                place = q.next(place);
            }
            return true;
        }

        private static int behindCommon(Ring p, Ring q) {
            int behind = NONE;
            int rows = 0;
            for (int i = 0; i < p.size; i++) {
                if (twin(p, i, q) != NONE && twin(p, p.next(i), q) == NONE) {
                    behind = p.next(i);
                    rows++;
                }
            }
            return rows == 1 ? behind : NONE;
        }

        /** The edge of q that is edge i of p the other way round. */
        private static int twin(Ring p, int i, Ring q) {
            for (int j = 0; j < q.size; j++) {
                if (q.from(j) == p.to(i) && q.to(j) == p.from(i)) {
                    return j;
                }
            }
            return NONE;
        }

        int sharedEdges(Ring p, Ring q) {
            int sum = 0;
            for (int i = 0; i < p.size; i++) {
                for (int j = 0; j < q.size; j++) {
                    if (corners.relation(p.from(i), p.to(i), q.from(j), q.to(j)) == 3) {
                        sum++;
                    }
                }
            }
            return sum;
        }

        void forgetMarks() {
            for (int c = 0; c < MOST_CORNERS; c++) {
                marked[c] = false;
            }
        }

        void mark(Ring ring) {
            for (int i = 0; i < ring.size; i++) {
                marked[ring.from(i)] = true;
            }
        }

        /** There and back along the corners' order, keeping to left turns only. */
        void wrapMarked(Ring hull) {
            hull.clear();
            for (int i = 0; i < corners.size; i++) {
                wrapIn(hull, 0, corners.inAheadOrder(i));
            }
            int lower = hull.size - 1;
            for (int i = corners.size - 1; i >= 0; i--) {
                wrapIn(hull, lower, corners.inAheadOrder(i));
            }
            hull.removeLast();
        }

        private void wrapIn(Ring hull, int base, int c) {
            if (!marked[c] || hull.size > 0 && hull.from(hull.size - 1) == c) {
                return;
            }
            while (hull.size - base >= 2
                    && corners.turn(hull.from(hull.size - 2), hull.from(hull.size - 1), c, c) <= 0) {
                hull.removeLast();
            }
            hull.append(c);
        }
    }

    /** Exact areas, twice, in whole 2^-144ths: nine parts of 26 bits, none below 0. */
    private static final class Areas {
        private static final int PLACES = 9;
        /** The power of 2 that, doubled, is above all that is ever shared. */
        private static final int HALF_OF_SHARES = 512;

        private final Corners corners;
        private final long[][] rows;
        private final long[] whole;
        private final int[] cut;

        Areas(Corners corners) {
            this.corners = corners;
            rows = new long[MOST_PARCELS][PLACES];
            whole = new long[PLACES];
            cut = new int[MOST_PARCELS];
        }

        private void measure(Ring ring, long[] row) {
            long carry = 0;
            for (int k = 0; k < PLACES; k++) {
                long sum = carry;
                for (int i = 0; i < ring.size; i++) {
                    sum += corners.column(ring.from(i), ring.to(i), k);
                }
                row[k] = sum & Corners.PART_MASK;
                carry = sum >> Corners.PART_BITS;
            }
        }

        long twiceDown(Ring ring) {
            long[] row = rows[0];
            measure(ring, row);
            // 144 bits are five parts and 14 bits; twice an area is no more than 2^59.
            return (row[5] >> 14) + (row[6] << 12) + (row[7] << 38);
        }

        int against(Ring p, Ring q) {
            measure(p, rows[0]);
            measure(q, rows[1]);
            return signOfGap(rows[0], 1, rows[1], 1);
        }

        /** The sign of one row so many times, less another row so many times. */
        private static int signOfGap(long[] a, long timesA, long[] b, long timesB) {
            long carry = 0;
            boolean some = false;
            for (int k = 0; k < PLACES; k++) {
                long sum = carry + a[k] * timesA - b[k] * timesB;
                some = some || (sum & Corners.PART_MASK) != 0;
                carry = sum >> Corners.PART_BITS;
            }
            if (carry < 0) {
                return -1;
            }
            return carry > 0 || some ? 1 : 0;
        }

        int shareOf(Parcel[] parcels, int p, int n) {
            int layer = parcels[p].layer;
            measureAll(parcels, layer);
            int left = n - cutAll(parcels, layer, n);
            int served = 0;
            for (int q = 0; q < parcels.length; q++) {
                if (q != p && parcels[q].isOn(layer)) {
                    int rest = signOfGap(rows[q], 1, rows[p], 1);
                    if (rest > 0 || rest == 0 && q < p) {
                        served++;
                    }
                }
            }
            return cut[p] + (served < left ? 1 : 0);
        }

        private void measureAll(Parcel[] parcels, int layer) {
            for (int k = 0; k < PLACES; k++) {
                whole[k] = 0;
            }
            for (int q = 0; q < parcels.length; q++) {
                if (parcels[q].isOn(layer)) {
                    measure(parcels[q].ring, rows[q]);
                    for (int k = 0; k < PLACES; k++) {
                        whole[k] += rows[q][k];
                    }
                }
            }
        }

        /** Cuts every share, and leaves the rests in the rows: how much was given. */
        private int cutAll(Parcel[] parcels, int layer, int n) {
            int given = 0;
            for (int q = 0; q < parcels.length; q++) {
                if (parcels[q].isOn(layer)) {
                    cut[q] = cutOne(rows[q], n);
                    given += cut[q];
                    for (int k = 0; k < PLACES; k++) {
                        rows[q][k] = rows[q][k] * n - whole[k] * cut[q];
                    }
                }
            }
            return given;
        }

        private int cutOne(long[] row, int n) {
            int share = 0;
            for (int step = HALF_OF_SHARES; step > 0; step /= 2) {
                if (signOfGap(row, n, whole, share + step) >= 0) {
                    share += step;
                }
            }
            return share;
        }
    }
}
