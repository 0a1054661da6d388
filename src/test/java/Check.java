/** What the tests share: counting what is not as due, and maps that are quick to set up. */
final class Check {
    private int wrong;

    void due(String call, long got, long want) {
        if (got != want) {
            wrong++;
            System.out.println(call + " answered " + got + ", due is " + want);
        }
    }

    void holds(String what, boolean so) {
        if (!so) {
            wrong++;
            System.out.println("does not hold: " + what);
        }
    }

    void finish() {
        System.out.println(wrong == 0 ? "all as due" : wrong + " not as due");
        if (wrong != 0) {
            System.exit(1);
        }
    }

    static long bits(double d) {
        return Double.doubleToRawLongBits(d);
    }

    static int corner(ParcelMap map, double x, double y) {
        return map.corner(bits(x), bits(y));
    }

    /** Draws a ring of the corners at x, y, x, y, .. (made where they are not there yet). */
    static void draw(ParcelMap map, double... xy) {
        map.draw();
        for (int i = 0; i + 1 < xy.length; i += 2) {
            map.add(corner(map, xy[i], xy[i + 1]));
        }
    }

    static int close(ParcelMap map, int layer, int owner, double... xy) {
        draw(map, xy);
        return map.close(layer, owner);
    }

    /** A ring that is level and upright, from one corner to the opposite one. */
    static int box(ParcelMap map, int layer, double x, double y, double toX, double toY) {
        return close(map, layer, 1, x, y, toX, y, toX, toY, x, toY);
    }

    /** The corners of a parcel as x, y, x, y, .. */
    static double[] ring(ParcelMap map, int p) {
        int n = map.told(p, 2);
        double[] xy = new double[Math.max(0, 2 * n)];
        for (int i = 0; i < n; i++) {
            xy[2 * i] = Double.longBitsToDouble(map.at(map.told(p, 3 + i), 0));
            xy[2 * i + 1] = Double.longBitsToDouble(map.at(map.told(p, 3 + i), 1));
        }
        return xy;
    }

    void ringDue(String call, ParcelMap map, int p, double... xy) {
        holds(call + ": the ring is " + java.util.Arrays.toString(ring(map, p)) + ", due is "
                + java.util.Arrays.toString(xy), java.util.Arrays.equals(ring(map, p), xy));
    }
}
