/** Promises 12, 13, 14, 19 and 20: drawing on and off, sailing, RAMPS and what is told of the FERRY. */
public final class DrawingTest {
    public static void main(String[] args) {
        refusedOn();
        refusedOff();
        atSea();
        orderOfRefusals();
        tenOnATrack();
        lengthOfTheDeck();
        bars();
        list();
        heightByLoad();
        rampAheadOfTheDraw();
        sailing();
        chains();
        firstChains();
        firstLimit();
        wrongNumbers();
        Due.close();
    }

    private static TrainFerry open() {
        TrainFerry x = new TrainFerry();
        x.tide(0, 0, 0);
        x.tide(1, 0, 0);
        return x;
    }

    private static void refusedOn() {
        TrainFerry x = open();
        Due.same("no WAGON", x.on(0, 0), -1);
        x.wagon(0, 0, 10, 10, 0);
        x.wagon(1, 1, 10, 10, 0);
        int[][] wrong = {{-1, 0}, {3, 0}, {0, -1}, {0, 4}, {1, 0}, {2, 0}};
        for (int[] w : wrong) {
            Due.same("on(" + w[0] + ", " + w[1] + ")", x.on(w[0], w[1]), -1);
        }
        Due.same("no TICK went", x.count(0), 0);
        x.ramp(0, true);
        Due.same("broken", x.on(0, 0), -3);
        x.ramp(0, false);
        Due.same("on(0, 2)", x.on(0, 2), 10010);
        Due.same("a TICK went", x.count(0), 1);
        Due.same("ferry(5)", x.ferry(5), 1);
    }

    private static void refusedOff() {
        TrainFerry x = open();
        Due.same("an empty DECK", x.off(0, 0), -1);
        x.wagon(0, 0, 10, 10, 0);
        x.on(0, 3);
        int[][] wrong = {{-1, 0}, {4, 0}, {0, 0}, {3, -1}, {3, 3}};
        for (int[] w : wrong) {
            Due.same("off(" + w[0] + ", " + w[1] + ")", x.off(w[0], w[1]), -1);
        }
        x.ramp(0, true);
        Due.same("broken", x.off(3, 0), -3);
        Due.same("broken, but no such TRACK", x.off(3, 3), -1);
        x.ramp(0, false);
        for (int i = 0; i < 19; i++) {
            x.wagon(0, 0, 10, 10, 0);
        }
        Due.same("it still fits", x.off(3, 0), 10000);
        x.on(0, 3);
        x.wagon(0, 0, 6, 10, 0);
        Due.same("no room in the YARD", x.off(3, 0), -4);
        Due.same("room in another TRACK", x.off(3, 1), 10000);
    }

    private static void atSea() {
        TrainFerry x = open();
        x.wagon(0, 0, 10, 10, 0);
        x.wagon(0, 0, 10, 10, 0);
        x.on(0, 1);
        x.sail();
        int[][] on = {{0, 0, -2}, {1, 0, -2}, {9, 3, -2}, {-1, 0, -2}, {0, 4, -1}, {0, -1, -1}};
        for (int[] o : on) {
            Due.same("at sea on(" + o[0] + ", " + o[1] + ")", x.on(o[0], o[1]), o[2]);
        }
        int[][] off = {{1, 0, -2}, {1, 9, -2}, {1, -1, -2}, {0, 0, -1}, {4, 0, -1}, {-1, 0, -1}};
        for (int[] o : off) {
            Due.same("at sea off(" + o[0] + ", " + o[1] + ")", x.off(o[0], o[1]), o[2]);
        }
        Due.same("no TICK went", x.count(0), 1);
    }

    private static void orderOfRefusals() {
        TrainFerry x = open();
        x.ship(40, 0, 5, 100);
        x.wagon(0, 0, 26, 50, 1);
        x.wagon(0, 1, 26, 50, 1);
        Due.same("BARS ahead of LIST", x.on(0, 1), -5);
        Due.same("LIST", x.on(0, 0), -6);
        x.ship(40, 150, 5, 100);
        Due.same("on(0, 0)", x.on(0, 0), 9850);
        Due.same("room ahead of LIST", x.on(1, 0), -4);
        x.ramp(0, true);
        Due.same("RAMP ahead of room", x.on(1, 0), -3);
        Due.same("TRACK ahead of RAMP", x.on(0, 0), -1);
        x.ramp(0, false);
        Due.same("the other side", x.on(1, 3), 10000);
        for (int i = 0; i < 8; i++) {
            x.wagon(0, 2, 25, 10, 0);
        }
        Due.same("off: room ahead of LIST", x.off(0, 2), -4);
        x.off(0, 0);
        x.on(0, 0);
    }

    private static void tenOnATrack() {
        TrainFerry x = open();
        x.ship(200, 2000, 5, 100);
        for (int i = 0; i < 11; i++) {
            x.wagon(0, 0, 6, 10, 0);
        }
        for (int i = 0; i < 10; i++) {
            Due.same("of ten", x.on(0, 1), 10000 - 10 * (i + 1));
        }
        Due.same("ten are there", x.on(0, 1), -4);
        Due.same("of another TRACK", x.on(0, 2), 9910);
    }

    private static void lengthOfTheDeck() {
        TrainFerry x = open();
        for (int i = 0; i < 5; i++) {
            x.wagon(0, 0, 25, 10, 0);
        }
        for (int i = 0; i < 4; i++) {
            x.on(0, 1);
        }
        Due.same("100 of 100", x.deck(1, 3), 3);
        Due.same("125 of 100", x.on(0, 1), -4);
        x.wagon(0, 1, 6, 10, 0);
        Due.same("106 of 100", x.on(1, 1), -4);
        x.off(1, 2);
        x.wagon(0, 1, 20, 10, 0);
        Due.same("81 of 100", x.on(1, 1), 9960);
        Due.same("101 of 100", x.on(1, 1), -4);
    }

    private static void bars() {
        for (int sleeper = 0; sleeper < 4; sleeper++) {
            for (int danger = 0; danger < 4; danger++) {
                TrainFerry x = open();
                x.wagon(0, 0, 10, 10, 1);
                x.wagon(0, 1, 10, 10, 2);
                boolean stands = sleeper == 0 || sleeper == 3;
                boolean apart = Math.abs(sleeper - danger) > 1;
                Due.same("a sleeper on " + sleeper, x.on(0, sleeper) == -5 ? 0 : 1, stands ? 1 : 0);
                int second = x.on(1, danger);
                Due.same("danger on " + danger, second == -5 ? 1 : 0, stands && !apart ? 1 : 0);

                TrainFerry y = open();
                y.wagon(0, 0, 10, 10, 1);
                y.wagon(0, 1, 10, 10, 2);
                y.on(1, danger);
                Due.same("danger first", y.on(0, sleeper) == -5 ? 1 : 0, stands && apart ? 0 : 1);
            }
        }
        TrainFerry x = open();
        x.wagon(0, 0, 10, 10, 1);
        x.wagon(0, 1, 10, 10, 3);
        x.wagon(0, 1, 10, 10, 0);
        x.wagon(0, 1, 10, 10, 1);
        x.wagon(0, 2, 10, 10, 2);
        Due.same("sleeper", x.on(0, 0), 9970);
        Due.same("empty beside it", x.on(1, 0), 9940);
        Due.same("goods beside it", x.on(1, 1), 9930);
        Due.same("a second sleeper", x.on(1, 0), 9900);
        Due.same("danger next to them", x.on(2, 1), -5);
        Due.same("sleepers go", x.off(0, 1) + x.off(0, 1) + x.off(0, 1), 9930 + 9960 + 9990);
        Due.same("danger when they went", x.on(2, 0), 9960);
    }

    private static void list() {
        TrainFerry x = open();
        x.ship(100, 180, 50, 100);
        for (int i = 0; i < 3; i++) {
            x.wagon(0, 0, 10, 60, 0);
        }
        Due.same("-180 of 180", x.on(0, 0), 9820);
        Due.same("-360 of 180", x.on(0, 0), -6);
        Due.same("-240 of 180", x.on(0, 1), -6);
        Due.same("-120 of 180", x.on(0, 2), 9880);
        Due.same("60 of 180", x.on(0, 3), 10060);
        Due.same("off: 240 of 180", x.off(0, 0), -6);
        Due.same("what is refused changes nothing", x.count(0), 3);
        Due.same("still on the DECK", x.of(0, 0), 2);
        x.wagon(0, 2, 10, 40, 0);
        Due.same("20", x.on(2, 1), 10020);
        Due.same("off: 200 of 180", x.off(0, 0), -6);
        x.wagon(0, 2, 10, 20, 0);
        Due.same("0", x.on(2, 1), 10000);
        Due.same("off: 180 of 180", x.off(0, 1), 10180);
        Due.same("and on again", x.on(1, 0), 10000);
        Due.same("off: 20, 60", x.off(1, 2) + x.off(1, 2), 20080);
        Due.same("off: -120", x.off(3, 0), 9880);
        Due.same("ferry(1)", x.ferry(1), -120);
        Due.same("ferry(2)", x.ferry(2), 120);
    }

    private static void heightByLoad() {
        TrainFerry x = new TrainFerry();
        x.tide(0, 0, -5);
        x.tide(1, 0, -5);
        x.wagon(0, 0, 10, 39, 0);
        x.wagon(0, 0, 10, 10, 0);
        Due.yes("isOpen(0): -5", x.isOpen(0));
        Due.same("on", x.on(0, 1), 9961);
        Due.yes("isOpen(0): -5, cut", x.isOpen(0));
        Due.same("on", x.on(0, 2), 9971);
        Due.no("isOpen(0): -6", x.isOpen(0));
        Due.yes("isOpen(1): not there", x.isOpen(1));
        Due.same("off: -6", x.off(2, 0), -3);
        x.sail();
        Due.yes("isOpen(0): the FERRY is at sea", x.isOpen(0));
        x.ticks(10);
        Due.same("ferry(0)", x.ferry(0), 1);
        Due.no("isOpen(1): -6", x.isOpen(1));
        x.tide(1, x.ticks(1), 6);
        Due.yes("isOpen(1): 5", x.isOpen(1));
        x.tide(1, x.ticks(1), 7);
        Due.no("isOpen(1): 6", x.isOpen(1));
    }

    private static void rampAheadOfTheDraw() {
        TrainFerry x = new TrainFerry();
        x.tide(0, 0, 6);
        x.wagon(0, 0, 10, 40, 0);
        x.wagon(0, 1, 10, 10, 0);
        Due.same("the WAGON would bring the HEIGHT down, but is not on yet", x.on(0, 1), -3);
        x.tide(0, 0, -5);
        Due.same("the WAGON closes the RAMP behind it", x.on(0, 1), 9960);
        Due.same("waits by the RAMP as it is behind the draw", x.of(1, 4), 1);
        Due.same("and not by other", x.of(1, 6), 0);
    }

    private static void sailing() {
        for (int sea = 0; sea < 5; sea++) {
            TrainFerry x = open();
            x.ticks(7);
            x.sea(sea);
            int there = 7 + 10 + 3 * sea;
            Due.same("sail()", x.sail(), there);
            x.sea(5);
            Due.same("sail() at sea", x.sail(), -1);
            Due.same("count(8)", x.count(8), 1);
            Due.same("ferry(4)", x.ferry(4), there);
            x.ticks(9 + 3 * sea);
            Due.same("ferry(0) ahead of it", x.ferry(0), 2);
            x.ticks(1);
            Due.same("ferry(0) then", x.ferry(0), 1);
            Due.same("ferry(4) then", x.ferry(4), -1);
            Due.same("sail() in a storm", x.sail(), -2);
            x.sea(0);
            Due.same("and back", x.sail(), there + 10);
            x.ticks(200);
            Due.same("ferry(0)", x.ferry(0), 0);
            Due.same("count(8)", x.count(8), 2);
        }
    }

    private static void chains() {
        TrainFerry x = open();
        x.ship(100, 200, 50, 12);
        int[] kinds = {0, 1, 3, 1};
        int[] tracks = {1, 0, 2, 3};
        for (int i = 0; i < 4; i++) {
            x.wagon(0, 0, 10, 10, kinds[i]);
            x.on(0, tracks[i]);
        }
        int[] need = {0, 6, 12, 18, 24, 30};
        for (int sea = 0; sea <= 5; sea++) {
            x.sea(sea);
            Due.same("ferry(3)", x.ferry(3), need[sea]);
        }
        Due.same("a storm ahead of CHAINS", x.sail(), -2);
        x.sea(3);
        Due.same("not enough", x.sail(), -3);
        Due.same("count(8)", x.count(8), 0);
        x.sea(2);
        Due.same("just enough", x.sail(), 4 + 16);
        Due.same("ferry(3) at sea", x.ferry(3), 12);

        TrainFerry y = open();
        y.wagon(0, 0, 10, 10, 2);
        y.on(0, 0);
        y.sea(4);
        Due.same("danger needs twice", y.ferry(3), 8);
    }

    private static void firstChains() {
        TrainFerry x = open();
        x.tide(0, 0, 5);
        for (int i = 0; i < 13; i++) {
            x.wagon(0, 0, 6, 10, i == 0 ? 0 : 2);
            x.on(0, i % 4);
        }
        x.sea(4);
        Due.same("100 of 100 are needed", x.ferry(3), 100);
        Due.same("and enough", x.sail(), 13 + 22);
        x.ticks(22);
        x.wagon(1, 0, 6, 10, 0);
        x.on(0, 0);
        Due.same("104 of 100 are needed", x.ferry(3), 104);
        Due.same("and not enough", x.sail(), -3);
    }

    private static void firstLimit() {
        TrainFerry x = open();
        x.wagon(0, 0, 10, 67, 0);
        x.wagon(0, 1, 10, 50, 0);
        x.wagon(0, 1, 10, 50, 0);
        Due.same("-201 of 200", x.on(0, 0), -6);
        Due.same("201 of 200", x.on(0, 3), -6);
        Due.same("150 of 200", x.on(1, 3), 10150);
        Due.same("200 of 200", x.on(1, 2), 10200);
    }

    private static void wrongNumbers() {
        TrainFerry x = open();
        int[] shores = {-1, 2, Integer.MAX_VALUE, Integer.MIN_VALUE};
        for (int shore : shores) {
            Due.noSuchShore(x, shore);
        }
        int[] whats = {-1, 6, Integer.MAX_VALUE, Integer.MIN_VALUE};
        for (int what : whats) {
            Due.noSuchThing(x, what);
        }
    }
}
