import java.util.Random;

/** Promises 15 and 16 on LOADINGS of as many WAGONS as there can be, from fixed seeds, against PlainFerry. */
public final class SixLoadedTest {
    private static final int YARDS = 12;
    private static final int[][] WANTED = {{2, 2, 2}, {6, 0, 0}, {0, 6, 0}, {0, 0, 6}, {3, 2, 1}, {1, 2, 3}, {3, 3, 0},
        {0, 4, 2}, {4, 1, 1}, {1, 0, 5}};

    public static void main(String[] args) {
        for (int seed = 0; seed < YARDS; seed++) {
            yard(new Random(seed), seed);
        }
        Due.close();
    }

    private static void yard(Random random, int seed) {
        TrainFerry x = new TrainFerry();
        PlainFerry plain = new PlainFerry();
        int length = 40 + random.nextInt(60);
        int limit = 80 + random.nextInt(200);
        x.ship(length, limit, 50, 100);
        plain.ship(length, limit, 50, 100);
        x.tide(0, 0, 0);
        plain.tide(0, 0, 0);
        for (int i = 0; i < 20; i++) {
            int track = i % 3;
            int weight = 10 + random.nextInt(81);
            int kind = random.nextInt(3) == 0 ? random.nextInt(4) : 0;
            int wagonLength = 6 + random.nextInt(21);
            Due.same("wagon", x.wagon(0, track, wagonLength, weight, kind), plain.wagon(0, track, wagonLength, weight, kind));
        }
        for (int i = 0; i < seed % 3; i++) {
            int deck = random.nextInt(4);
            Due.same("on", x.on(i, deck), plain.on(i, deck));
        }
        for (int[] w : WANTED) {
            String call = "yard " + seed + ": loading(" + w[0] + ", " + w[1] + ", " + w[2] + ")";
            Due.same(call, x.loading(w[0], w[1], w[2]), plain.loading(w[0], w[1], w[2]));
            for (int i = 0; i <= 6; i++) {
                Due.same(call + ", step(" + i + ", 0)", x.step(i, 0), plain.step(i, 0));
                Due.same(call + ", step(" + i + ", 1)", x.step(i, 1), plain.step(i, 1));
            }
        }
    }
}
