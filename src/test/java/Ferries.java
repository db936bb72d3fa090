import java.util.ArrayList;
import java.util.List;

/** Ferries as the tests of single sentences begin with them, and all that a ferry tells of itself. */
final class Ferries {
    private Ferries() {
    }

    /** Of the first numbers, with both RAMPS OPEN while little is on the DECK. */
    static TrainFerry open() {
        TrainFerry x = new TrainFerry();
        x.tide(0, 0, 0);
        x.tide(1, 0, 0);
        return x;
    }

    /** With the greatest numbers, and TIDES for which the RAMPS are OPEN with up to 4039 on the DECK. */
    static TrainFerry great() {
        TrainFerry x = new TrainFerry();
        x.ship(200, 2000, 50, 1000);
        x.tide(0, 0, 50);
        x.tide(1, 0, 50);
        return x;
    }

    /** A WAGON comes to TRACK 2 of the YARD where the FERRY is, which must be empty, and is drawn on. */
    static int load(TrainFerry x, int deck, int length, int weight, int kind) {
        x.wagon(x.ferry(0), 2, length, weight, kind);
        return x.on(2, deck);
    }

    /** Whether the RAMP is OPEN, if that is the TIDE from the TICK at hand on. */
    static boolean isOpenAt(TrainFerry x, int shore, int tide) {
        x.tide(shore, (int) x.count(0), tide);
        return x.isOpen(shore);
    }

    /** All that the object tells of itself without a search: some 30 calls, and 12 more for each WAGON. */
    static String told(TrainFerry x) {
        List<Long> all = new ArrayList<>();
        for (int what = 0; what <= 8; what++) {
            all.add(x.count(what));
        }
        for (int what = 0; what <= 5; what++) {
            all.add((long) x.ferry(what));
        }
        for (int shore = 0; shore < 2; shore++) {
            all.add(x.isOpen(shore) ? 1L : 0L);
            for (int track = 0; track < 3; track++) {
                addYard(all, x, shore, track);
            }
        }
        for (int track = 0; track < 4; track++) {
            addDeck(all, x, track);
        }
        for (int wagon = 0; wagon < x.count(1); wagon++) {
            for (int what = 0; what <= 9; what++) {
                all.add((long) x.of(wagon, what));
            }
        }
        all.add((long) x.place());
        return all.toString();
    }

    private static void addYard(List<Long> all, TrainFerry x, int shore, int track) {
        long number = 0;
        for (int i = 0; number != -1; i++) {
            number = x.yard(shore, track, i);
            all.add(number);
        }
    }

    private static void addDeck(List<Long> all, TrainFerry x, int track) {
        long number = 0;
        for (int i = 0; number != -1; i++) {
            number = x.deck(track, i);
            all.add(number);
        }
    }
}
