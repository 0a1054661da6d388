import java.util.Random;

/** No call may throw or fail to end, for any arguments in any state, behind the 512th call too. */
final class AnyArgumentsTest {
    private static final int[] EDGES = {Integer.MIN_VALUE, Integer.MAX_VALUE, -1, 0, 1, 2, 3, 4, 7, 11, 12, 14,
        59, 60, 199, 200, -101, -102};
    private final Random random = new Random(3);

    public static void main(String[] args) {
        new AnyArgumentsTest().run();
        System.out.println("all calls ended");
    }

    private int any() {
        return random.nextInt(3) == 0 ? EDGES[random.nextInt(EDGES.length)] : random.nextInt(14);
    }

    private long bits() {
        return random.nextInt(6) == 0 ? random.nextLong() : Check.bits(random.nextInt(9) - 4);
    }

    private void run() {
        for (int i = 0; i < 60; i++) {
            ParcelMap map = new ParcelMap();
            for (int calls = 0; calls < 3000; calls++) {
                call(map);
            }
        }
    }

    private long call(ParcelMap map) {
        return switch (random.nextInt(40)) {
            case 0, 1, 2 -> map.corner(bits(), bits());
            case 3 -> map.at(any(), any());
            case 4 -> map.side(any(), any(), any());
            case 5 -> map.sure();
            case 6 -> map.cross(any(), any(), any(), any());
            case 7 -> map.nearest(bits(), bits());
            case 8 -> map.draw();
            case 9, 10, 11, 12, 13, 14 -> map.add(any());
            case 15, 16 -> map.close(any(), any());
            case 17 -> map.where();
            case 18 -> map.told(any(), any());
            case 19 -> map.give(any(), any());
            case 20 -> map.drop(any());
            case 21 -> map.split(any(), any(), any(), any());
            case 22 -> map.join(any(), any());
            case 23 -> map.move(any(), any(), any());
            case 24 -> map.border(any(), any());
            case 25 -> map.neighbour(any(), any());
            case 26 -> map.locate(any(), bits(), bits());
            case 27 -> map.edge();
            case 28 -> map.walk(any(), any(), any(), any());
            case 29 -> map.hull(any());
            case 30 -> map.hullAt(any());
            case 31 -> map.twice(any());
            case 32 -> map.compare(any(), any());
            case 33 -> map.quota(any(), any());
            case 34 -> map.undo();
            case 35 -> map.count(any());
            case 36 -> map.digest();
            default -> Check.close(map, random.nextInt(4), 0, random.nextInt(9), random.nextInt(9),
                    random.nextInt(9), random.nextInt(9), random.nextInt(9), random.nextInt(9));
        };
    }
}
