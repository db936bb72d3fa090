/** Promises 1 to 6, 21 and 22: a new object, what is told to it, and where WAGONS stand. */
public final class YardTest {
    public static void main(String[] args) {
        newObject();
        ship();
        shipWithAWagonOnTheDeck();
        wagonNumbers();
        wagonRoom();
        hundredWagons();
        tides();
        twoHundredTides();
        tideOfTheLatestTick();
        sea();
        ramps();
        rows();
        Due.close();
    }

    private static void newObject() {
        TrainFerry x = new TrainFerry();
        int[] due = {0, 0, 0, -1, 0, 0, 0, 0, 0};
        for (int what = 0; what < due.length; what++) {
            Due.same("new: count(" + what + ")", x.count(what), due[what]);
        }
        int[] ferry = {0, 0, 0, 0, -1, 0};
        for (int what = 0; what < ferry.length; what++) {
            Due.same("new: ferry(" + what + ")", x.ferry(what), ferry[what]);
        }
        Due.no("new: isOpen(0)", x.isOpen(0));
        Due.no("new: isOpen(1)", x.isOpen(1));
        Due.same("new: place()", x.place(), -1);
        Due.same("new: step(0, 0)", x.step(0, 0), -1);
        Due.same("new: of(0, 0)", x.of(0, 0), -1);
        Due.same("new: yard(0, 0, 0)", x.yard(0, 0, 0), -1);
        Due.same("new: deck(0, 0)", x.deck(0, 0), -1);
        Due.same("new: emptying()", x.emptying(), 0);
    }

    private static void ship() {
        TrainFerry x = new TrainFerry();
        int[][] right = {{40, 0, 0, 0}, {200, 2000, 50, 1000}, {100, 200, 5, 100}};
        for (int[] s : right) {
            Due.yes("ship of right numbers", x.ship(s[0], s[1], s[2], s[3]));
        }
        int[][] wrong = {{39, 0, 0, 0}, {201, 0, 0, 0}, {40, -1, 0, 0}, {40, 2001, 0, 0}, {40, 0, -1, 0},
            {40, 0, 51, 0}, {40, 0, 0, -1}, {40, 0, 0, 1001}, {Integer.MIN_VALUE, 0, 0, 0}};
        for (int[] s : wrong) {
            Due.no("ship of wrong numbers", x.ship(s[0], s[1], s[2], s[3]));
        }
        x.tide(0, 0, 0);
        x.wagon(0, 0, 20, 40, 0);
        Due.same("a refused ship() changes nothing", x.on(0, 0), 9880);
    }

    private static void shipWithAWagonOnTheDeck() {
        TrainFerry x = new TrainFerry();
        x.tide(0, 0, 0);
        x.wagon(0, 0, 20, 40, 0);
        x.wagon(0, 0, 20, 40, 0);
        Due.yes("ship() of a short deck", x.ship(40, 119, 5, 100));
        Due.same("LIST above the new LIMIT", x.on(0, 0), -6);
        Due.yes("ship() again", x.ship(40, 120, 5, 100));
        Due.same("LIST of the new LIMIT", x.on(0, 0), 9880);
        Due.no("ship() with a WAGON on the DECK", x.ship(40, 120, 5, 100));
        Due.same("off", x.off(0, 0), 10000);
        Due.yes("ship() of an empty DECK", x.ship(200, 200, 0, 0));
        x.sail();
        Due.yes("ship() at sea", x.ship(200, 200, 5, 0));
    }

    private static void wagonNumbers() {
        TrainFerry x = new TrainFerry();
        int[][] wrong = {{-1, 0, 6, 10, 0}, {2, 0, 6, 10, 0}, {0, -1, 6, 10, 0}, {0, 3, 6, 10, 0}, {0, 0, 5, 10, 0},
            {0, 0, 27, 10, 0}, {0, 0, 6, 9, 0}, {0, 0, 6, 91, 0}, {0, 0, 6, 10, -1}, {0, 0, 6, 10, 4}};
        for (int[] w : wrong) {
            Due.same("wagon of wrong numbers", x.wagon(w[0], w[1], w[2], w[3], w[4]), -1);
        }
        Due.same("count(1)", x.count(1), 0);
        Due.same("the least wagon", x.wagon(0, 0, 6, 10, 0), 0);
        Due.same("the greatest wagon", x.wagon(1, 2, 26, 90, 3), 1);
        Due.same("count(1)", x.count(1), 2);
        Due.same("of(1, 0)", x.of(1, 0), 1);
        Due.same("of(1, 1)", x.of(1, 1), 2);
        Due.same("of(1, 2)", x.of(1, 2), 3);
    }

    private static void wagonRoom() {
        TrainFerry x = new TrainFerry();
        for (int i = 0; i < 7; i++) {
            Due.same("182 of 200", x.wagon(0, 1, 26, 10, 0), i);
        }
        Due.same("201 of 200", x.wagon(0, 1, 19, 10, 0), -1);
        Due.same("200 of 200", x.wagon(0, 1, 18, 10, 0), 7);
        Due.same("206 of 200", x.wagon(0, 1, 6, 10, 0), -1);
        Due.same("another TRACK has room", x.wagon(0, 2, 26, 10, 0), 8);
        for (int i = 0; i < 33; i++) {
            Due.same("198 of 200", x.wagon(1, 0, 6, 10, 0), 9 + i);
        }
        Due.same("204 of 200", x.wagon(1, 0, 6, 10, 0), -1);
        Due.same("yard(1, 0, 32)", x.yard(1, 0, 32), 41);
        Due.same("yard(1, 0, 33)", x.yard(1, 0, 33), -1);
    }

    private static void hundredWagons() {
        TrainFerry x = new TrainFerry();
        for (int i = 0; i < 100; i++) {
            Due.same("of a hundred", x.wagon(i / 99, i / 33 % 3, 6, 10, 0), i);
        }
        Due.same("behind a hundred", x.wagon(1, 2, 6, 10, 0), -1);
        Due.same("count(1)", x.count(1), 100);
        Due.same("of(99, 0)", x.of(99, 0), 1);
        Due.same("of(100, 0)", x.of(100, 0), -1);
    }

    private static void tides() {
        TrainFerry x = new TrainFerry();
        x.ticks(10);
        int[][] wrong = {{-1, 10, 0}, {2, 10, 0}, {0, 9, 0}, {0, -1, 0}, {0, 5001, 0}, {0, 10, 51}, {0, 10, -51}};
        for (int[] t : wrong) {
            Due.no("tide of wrong numbers", x.tide(t[0], t[1], t[2]));
        }
        int[][] right = {{0, 10, 50}, {0, 10, -50}, {1, 5000, 50}};
        for (int[] t : right) {
            Due.yes("tide of right numbers", x.tide(t[0], t[1], t[2]));
        }
        Due.no("isOpen(0): -50", x.isOpen(0));
        x.ship(100, 200, 50, 100);
        Due.yes("isOpen(0): -50, REACH 50", x.isOpen(0));
        Due.no("isOpen(1): not yet told", x.isOpen(1));
        for (int i = 10; i < 5010; i += 200) {
            x.ticks(200);
        }
        Due.same("count(0)", x.count(0), 5010);
        Due.yes("isOpen(1)", x.isOpen(1));
        Due.no("behind 5000 none can be told", x.tide(1, 5010, 0));
    }

    private static void twoHundredTides() {
        TrainFerry x = new TrainFerry();
        for (int i = 0; i < 200; i++) {
            Due.yes("of 200 tides", x.tide(i % 2, i % 3, i % 7));
        }
        Due.no("tide 201", x.tide(0, 5000, 0));
        Due.no("tide 201 of the other SHORE", x.tide(1, 5000, 0));
        for (int shore = 0; shore < 2; shore++) {
            TrainFerry y = new TrainFerry();
            for (int i = 0; i < 200; i++) {
                Due.yes("of 200 tides of one SHORE", y.tide(shore, 0, i % 50));
            }
            Due.no("tide 201 of it", y.tide(shore, 0, 0));
            Due.no("tide 201 of the other", y.tide(1 - shore, 0, 0));
        }
    }

    private static void tideOfTheLatestTick() {
        TrainFerry x = new TrainFerry();
        x.tide(0, 3, 0);
        x.tide(0, 1, 6);
        x.tide(0, 3, 6);
        x.tide(0, 3, -5);
        x.tide(0, 5, 50);
        x.tide(0, 2, 5);
        x.tide(1, 0, 50);
        int[] open = {0, 0, 1, 1, 1, 0, 0};
        for (int tick = 0; tick < open.length; tick++) {
            Due.same("open in tick " + tick, x.isOpen(0) ? 1 : 0, open[tick]);
            x.ticks(1);
        }
        x.tide(0, 7, -6);
        Due.no("open at -6", x.isOpen(0));
        x.tide(0, 7, -5);
        Due.yes("open at -5", x.isOpen(0));
    }

    private static void sea() {
        TrainFerry x = new TrainFerry();
        for (int v = 0; v <= 5; v++) {
            Due.yes("sea(" + v + ")", x.sea(v));
            Due.yes("sea(" + v + ") again", x.sea(v));
            Due.same("count(5)", x.count(5), v);
        }
        Due.no("sea(6)", x.sea(6));
        Due.no("sea(-1)", x.sea(-1));
        Due.same("count(5)", x.count(5), 5);
    }

    private static void ramps() {
        TrainFerry x = new TrainFerry();
        x.tide(0, 0, 0);
        x.tide(1, 0, 0);
        Due.no("it isn't broken", x.ramp(0, false));
        Due.yes("it breaks", x.ramp(0, true));
        Due.no("it is broken already", x.ramp(0, true));
        Due.no("isOpen(0)", x.isOpen(0));
        Due.yes("isOpen(1)", x.isOpen(1));
        Due.yes("it is mended", x.ramp(0, false));
        Due.yes("isOpen(0)", x.isOpen(0));
        Due.no("ramp(-1)", x.ramp(-1, true));
        Due.no("ramp(2)", x.ramp(2, true));
        Due.yes("ramp(1)", x.ramp(1, true));
        Due.no("isOpen(1)", x.isOpen(1));
    }

    private static void rows() {
        TrainFerry x = new TrainFerry();
        x.tide(0, 0, 0);
        for (int i = 0; i < 3; i++) {
            x.wagon(0, 2, 10, 10, 0);
        }
        x.wagon(1, 2, 10, 10, 0);
        x.on(2, 1);
        x.on(2, 1);
        int[][] decks = {{1, 0, 0}, {1, 1, 1}, {1, 2, -1}, {1, -1, -1}, {0, 0, -1}, {-1, 0, -1}, {4, 0, -1}, {1, 10, -1}};
        for (int[] d : decks) {
            Due.same("deck(" + d[0] + ", " + d[1] + ")", x.deck(d[0], d[1]), d[2]);
        }
        int[][] yards = {{0, 2, 0, 2}, {0, 2, 1, -1}, {0, 2, -1, -1}, {1, 2, 0, 3}, {2, 2, 0, -1}, {-1, 2, 0, -1},
            {0, 3, 0, -1}, {0, -1, 0, -1}, {0, 2, 33, -1}, {0, 2, Integer.MAX_VALUE, -1}};
        for (int[] y : yards) {
            Due.same("yard(" + y[0] + ", " + y[1] + ", " + y[2] + ")", x.yard(y[0], y[1], y[2]), y[3]);
        }
        x.off(1, 0);
        Due.same("the last drawn off", x.yard(0, 0, 0), 1);
        Due.same("the first stays", x.deck(1, 0), 0);
        x.off(1, 2);
        Due.same("drawn off to the tail", x.yard(0, 2, 1), 0);
        Due.same("the head stays", x.yard(0, 2, 0), 2);
    }
}
