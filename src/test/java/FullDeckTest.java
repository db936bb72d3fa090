import java.util.Random;

/** Promises 17 and 18 on DECKS whose TRACKS are full or nearly so, from fixed seeds, against PlainFerry. */
public final class FullDeckTest {
    private static final int DECKS = 24;

    public static void main(String[] args) {
        for (int seed = 0; seed < DECKS; seed++) {
            deck(new Random(seed), seed);
        }
        Due.close();
    }

    private static void deck(Random random, int seed) {
        TrainFerry x = new TrainFerry();
        PlainFerry plain = new PlainFerry();
        int limit = 300 + random.nextInt(900);
        x.ship(200, limit, 50, 1000);
        plain.ship(200, limit, 50, 1000);
        x.tide(0, 0, 50);
        plain.tide(0, 0, 50);
        fill(x, plain, random);
        String name = "deck " + seed + ": ";
        int wagons = plain.ferry(5);
        Due.same(name + "ferry(5)", x.ferry(5), wagons);
        Due.same(name + "emptying()", x.emptying(), plain.emptying());
        for (int i : new int[] {0, 1, wagons / 2, wagons - 1, wagons}) {
            Due.same(name + "emptied(" + i + ")", x.emptied(i), plain.emptied(i));
        }
        draw(x, name);
    }

    /** Each WAGON goes to the first TRACK, from one drawn by lot on, that takes it. */
    private static void fill(TrainFerry x, PlainFerry plain, Random random) {
        for (int i = 0; i < 44; i++) {
            int weight = 10 + random.nextInt(81);
            x.wagon(0, 0, 6, weight, 0);
            plain.wagon(0, 0, 6, weight, 0);
            int first = random.nextInt(4);
            int answer = -1;
            for (int j = 0; j < 4 && answer < 0; j++) {
                answer = plain.on(0, (first + j) % 4);
                Due.same("on", x.on(0, (first + j) % 4), answer);
            }
            if (answer < 0) {
                return;
            }
        }
    }

    private static void draw(TrainFerry x, String name) {
        int worst = x.emptying();
        if (worst < 0) {
            return;
        }
        int wagons = x.ferry(5);
        int[] tracks = new int[wagons];
        for (int i = 0; i < wagons; i++) {
            tracks[i] = x.emptied(i);
        }
        int greatest = 0;
        for (int i = 0; i < wagons; i++) {
            int answer = x.off(tracks[i], i % 3);
            Due.yes(name + "off", answer > 0);
            greatest = Math.max(greatest, Math.abs(answer - 10000));
        }
        Due.same(name + "the WORST of its steps", greatest, worst);
    }
}
