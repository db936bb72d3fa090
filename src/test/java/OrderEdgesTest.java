import java.util.Arrays;

/** The edges of the document's Terms, ==== 3: LOADINGS, EMPTYINGS and REFUSALS, a test of its own for each. */
public final class OrderEdgesTest {
    public static void main(String[] args) {
        fromTheHeads();
        whereTheFerryIs();
        lengthsAreKept();
        numbersAreKept();
        barsAreKept();
        barsAmongThoseLoaded();
        listIsKept();
        listBehindEachStep();
        rampsAside();
        leastWorst();
        behindItsSteps();
        withoutSteps();
        lesserYardTrackFirst();
        lesserDeckTrackFirst();
        yardTrackThenDeckTrack();
        stepByStep();
        allAreDrawnOff();
        whereverTheyGo();
        listIsKeptInAnEmptying();
        leastWorstOfAnEmptying();
        emptyingWithoutSteps();
        lesserTrackOfTheDeckFirst();
        noSuchTrack();
        noWagonThere();
        deckTracksAloneAtSea();
        atSea();
        rampIsNotOpen();
        noRoomForItsLength();
        tenAreThere();
        tenAreADecksAlone();
        bars();
        list();
        theFirstThatHolds();
        refusedChangesNothing();
        Due.close();
    }

    private static void steps(TrainFerry x, int... due) {
        for (int i = 0; i < due.length; i++) {
            Due.same("step(" + i / 2 + ", " + i % 2 + ")", x.step(i / 2, i % 2), due[i]);
        }
        Due.same("the step behind", x.step(due.length / 2, 0), -1);
        Due.same("the step behind", x.step(due.length / 2, 1), -1);
    }

    private static void emptied(TrainFerry x, int... due) {
        for (int i = 0; i < due.length; i++) {
            Due.same("emptied(" + i + ")", x.emptied(i), due[i]);
        }
        Due.same("the step behind", x.emptied(due.length), -1);
    }

    private static void fromTheHeads() {
        Due.sentence("A LOADING of so many WAGONS from the heads of the TRACKS");
        TrainFerry x = Ferries.open();
        for (int weight : new int[] {10, 40, 70}) {
            x.wagon(0, 0, 10, weight, 0);
            x.wagon(0, 1, 10, 90 - weight, 0);
        }
        Due.same("10", x.loading(1, 0, 0), 10);
        steps(x, 0, 1);
        Due.same("80", x.loading(0, 1, 0), 80);
        steps(x, 1, 1);
        Due.same("10, then 40", x.loading(2, 0, 0), 30);
        steps(x, 0, 0, 0, 2);
        Due.same("10, then 80", x.loading(1, 1, 0), 50);
        steps(x, 0, 0, 1, 2);
        x.on(0, 1);
        Due.same("40 is the head now", x.loading(1, 0, 0), 30);
        steps(x, 0, 2);
    }

    private static void whereTheFerryIs() {
        Due.sentence("of the YARD where the FERRY is");
        TrainFerry x = Ferries.open();
        x.wagon(0, 0, 10, 20, 0);
        x.wagon(1, 0, 10, 30, 0);
        x.wagon(1, 0, 10, 30, 0);
        Due.same("SHORE 0", x.loading(1, 0, 0), 20);
        Due.same("SHORE 0 has one alone", x.loading(2, 0, 0), -1);
        x.sail();
        Due.same("at sea", x.loading(1, 0, 0), -1);
        x.ticks(10);
        Due.same("SHORE 1", x.loading(1, 0, 0), 30);
        Due.same("SHORE 1 has two", x.loading(2, 0, 0), 30);
    }

    private static void lengthsAreKept() {
        Due.sentence("lengths .. are kept behind each step");
        TrainFerry x = Ferries.open();
        x.ship(40, 200, 5, 100);
        Ferries.load(x, 1, 20, 10, 0);
        Ferries.load(x, 2, 20, 10, 0);
        x.wagon(0, 0, 20, 10, 0);
        x.wagon(0, 1, 21, 10, 0);
        Due.same("40 of 40", x.loading(1, 0, 0), 10);
        steps(x, 0, 1);
        Due.same("41 of 40, so further out", x.loading(0, 1, 0), 30);
        steps(x, 1, 0);

        TrainFerry y = Ferries.open();
        y.ship(40, 200, 5, 100);
        for (int i = 0; i < 6; i++) {
            y.wagon(0, 0, 21, 10, 0);
        }
        Due.same("one on each TRACK", y.loading(4, 0, 0), 20);
        steps(y, 0, 1, 0, 3, 0, 0, 0, 2);
        Due.same("and no fifth", y.loading(5, 0, 0), -1);
        Due.same("nor a sixth", y.loading(6, 0, 0), -1);
    }

    private static void numbersAreKept() {
        Due.sentence("numbers .. are kept behind each step");
        TrainFerry x = Ferries.great();
        for (int i = 0; i < 18; i++) {
            Ferries.load(x, 1 + i % 2, 6, 10, 0);
        }
        for (int i = 0; i < 3; i++) {
            x.wagon(0, 0, 6, 10, 0);
        }
        Due.same("LIST", x.ferry(1), 0);
        Due.same("a tenth on each", x.loading(2, 0, 0), 10);
        steps(x, 0, 1, 0, 2);
        Due.same("no eleventh, so further out", x.loading(3, 0, 0), 20);
        steps(x, 0, 1, 0, 3, 0, 0);
    }

    private static void barsAreKept() {
        Due.sentence("BARS .. are kept behind each step");
        TrainFerry x = Ferries.open();
        x.wagon(0, 0, 10, 10, 1);
        x.wagon(0, 1, 10, 10, 2);
        Due.same("a sleeper, on 0 and 3 alone", x.loading(1, 0, 0), 30);
        steps(x, 0, 0);
        Due.same("danger, where it likes", x.loading(0, 1, 0), 10);
        steps(x, 1, 1);
        x.on(1, 1);
        Due.same("danger on 1, so on 3", x.loading(1, 0, 0), 20);
        steps(x, 0, 3);
        x.wagon(0, 1, 10, 10, 2);
        x.on(1, 2);
        Due.same("danger on 1 and 2, so nowhere", x.loading(1, 0, 0), -1);
    }

    private static void barsAmongThoseLoaded() {
        Due.sentence("BARS .. are kept behind each step: among those that are loaded");
        TrainFerry x = Ferries.open();
        x.wagon(0, 0, 10, 10, 1);
        x.wagon(0, 1, 10, 10, 2);
        x.wagon(0, 1, 10, 10, 1);
        x.wagon(0, 2, 10, 10, 2);
        Due.same("a sleeper and danger, apart", x.loading(1, 1, 0), 20);
        steps(x, 1, 1, 0, 3);
        Due.same("danger twice", x.loading(1, 1, 1), 20);
        steps(x, 1, 1, 0, 3, 2, 0);
        TrainFerry y = Ferries.open();
        y.wagon(0, 0, 10, 10, 1);
        y.wagon(0, 0, 10, 10, 1);
        y.wagon(0, 0, 10, 10, 2);
        y.wagon(0, 1, 10, 10, 2);
        y.wagon(0, 1, 10, 10, 2);
        Due.same("both sleepers on one side, or danger cannot stand", y.loading(3, 0, 0), 60);
        steps(y, 0, 0, 0, 0, 0, 2);
        Due.same("danger first, on the side of no sleeper", y.loading(2, 2, 0), 20);
        steps(y, 1, 1, 0, 3, 1, 0, 0, 3);
        y.on(0, 0);
        y.on(0, 3);
        Due.same("sleepers on 0 and 3", y.loading(1, 0, 0), -1);
        Due.same("sleepers on 0 and 3", y.loading(0, 1, 0), -1);
    }

    private static void listIsKept() {
        Due.sentence("LIST .. kept");
        TrainFerry x = Ferries.open();
        x.wagon(0, 0, 10, 30, 0);
        x.ship(100, 29, 5, 100);
        Due.same("30 of 29", x.loading(1, 0, 0), -1);
        x.ship(100, 30, 5, 100);
        Due.same("30 of 30", x.loading(1, 0, 0), 30);
        x.wagon(0, 1, 10, 10, 1);
        x.ship(100, 29, 5, 100);
        Due.same("a sleeper: 30 of 29", x.loading(0, 1, 0), -1);
        x.ship(100, 0, 5, 100);
        Due.same("none of 0", x.loading(0, 0, 0), 0);
        Due.same("one of 0", x.loading(1, 0, 0), -1);
    }

    private static void listBehindEachStep() {
        Due.sentence("LIST .. behind each step");
        TrainFerry x = Ferries.open();
        x.wagon(0, 0, 10, 60, 0);
        x.wagon(0, 0, 10, 60, 0);
        x.ship(100, 59, 5, 100);
        Due.same("0 behind both, but 60 between", x.loading(2, 0, 0), -1);
        x.ship(100, 60, 5, 100);
        Due.same("60 between", x.loading(2, 0, 0), 60);
        steps(x, 0, 1, 0, 2);
    }

    private static void rampsAside() {
        Due.sentence("(RAMPS aside)");
        TrainFerry x = new TrainFerry();
        x.wagon(0, 0, 10, 30, 0);
        Due.same("without a TIDE", x.loading(1, 0, 0), 30);
        x.tide(0, 0, 50);
        Due.same("too high", x.loading(1, 0, 0), 30);
        x.tide(0, 0, 0);
        x.ramp(0, true);
        Due.same("broken", x.loading(1, 0, 0), 30);
        Due.same("on", x.on(0, 1), -3);
        x.ramp(0, false);
        x.tide(0, 0, -5);
        for (int i = 0; i < 3; i++) {
            x.wagon(0, 0, 10, 60, 0);
        }
        Due.same("not OPEN behind the first two steps", x.loading(4, 0, 0), 30);
        steps(x, 0, 1, 0, 2, 0, 1, 0, 2);
    }

    private static void leastWorst() {
        Due.sentence("The best: of the least WORST (the greatest size of LIST behind its steps");
        TrainFerry x = Ferries.open();
        int[] weights = {50, 20, 30, 10};
        for (int weight : weights) {
            x.wagon(0, 0, 10, weight, 0);
        }
        Due.same("50", x.loading(1, 0, 0), 50);
        steps(x, 0, 1);
        Due.same("50, 20", x.loading(2, 0, 0), 50);
        steps(x, 0, 1, 0, 2);
        Due.same("50, 20, 30, 10", x.loading(4, 0, 0), 50);
        TrainFerry y = Ferries.open();
        y.wagon(0, 0, 10, 20, 0);
        y.wagon(0, 0, 10, 90, 0);
        y.wagon(0, 1, 10, 30, 0);
        Due.same("20, 90", y.loading(2, 0, 0), 60);
        steps(y, 0, 0, 0, 2);
        Due.same("20, 90 and 30: the size below 0 counts, too", y.loading(2, 1, 0), 50);
        steps(y, 0, 1, 1, 1, 0, 2);
    }

    private static void behindItsSteps() {
        Due.sentence("LIST behind its steps: that ahead of the first does not count");
        TrainFerry x = Ferries.open();
        Ferries.load(x, 0, 10, 50, 0);
        x.wagon(0, 0, 10, 50, 0);
        Due.same("150 ahead of it, 0 behind it", x.loading(1, 0, 0), 0);
        steps(x, 0, 3);
        x.wagon(0, 1, 10, 40, 0);
        Due.same("150 ahead of it, 30 behind it", x.loading(0, 1, 0), 30);
        steps(x, 1, 3);
    }

    private static void withoutSteps() {
        Due.sentence("0 without steps)");
        TrainFerry x = Ferries.open();
        Due.same("an empty DECK", x.loading(0, 0, 0), 0);
        steps(x);
        Ferries.load(x, 0, 10, 50, 0);
        Due.same("a DECK that lists", x.loading(0, 0, 0), 0);
        steps(x);
    }

    private static void lesserYardTrackFirst() {
        Due.sentence("of several the first: the lesser TRACK of the YARD first");
        for (int without = 0; without < 3; without++) {
            TrainFerry x = Ferries.open();
            int lesser = without == 0 ? 1 : 0;
            int greater = without == 2 ? 1 : 2;
            x.wagon(0, greater, 10, 20, 0);
            x.wagon(0, lesser, 10, 20, 0);
            int[] wanted = {1, 1, 1};
            wanted[without] = 0;
            Due.same("one of two TRACKS each", x.loading(wanted[0], wanted[1], wanted[2]), 20);
            steps(x, lesser, 1, greater, 2);
        }
        TrainFerry y = Ferries.open();
        for (int i = 0; i < 6; i++) {
            y.wagon(0, 2 - i / 2, 10, 20, 0);
        }
        Due.same("two of each", y.loading(2, 2, 2), 20);
        steps(y, 0, 1, 0, 2, 1, 1, 1, 2, 2, 1, 2, 2);
    }

    private static void lesserDeckTrackFirst() {
        Due.sentence("of several the first: then that of the DECK");
        TrainFerry x = Ferries.open();
        x.wagon(0, 0, 10, 20, 0);
        x.wagon(0, 1, 10, 20, 1);
        Due.same("1 or 2", x.loading(1, 0, 0), 20);
        steps(x, 0, 1);
        Due.same("0 or 3", x.loading(0, 1, 0), 60);
        steps(x, 1, 0);
        Ferries.load(x, 2, 10, 40, 0);
        Due.same("0 by 1 is the less", x.loading(1, 0, 0), 20);
        steps(x, 0, 0);
    }

    private static void yardTrackThenDeckTrack() {
        Due.sentence("the lesser TRACK of the YARD first, then that of the DECK");
        TrainFerry x = Ferries.open();
        Ferries.load(x, 1, 10, 10, 2);
        x.wagon(0, 0, 10, 10, 1);
        x.wagon(0, 1, 10, 10, 0);
        Due.same("the YARD's 0 to 3, or 1 to 1 first", x.loading(1, 1, 0), 20);
        steps(x, 0, 3, 1, 0);
    }

    private static void stepByStep() {
        Due.sentence("of several the first, step by step");
        TrainFerry x = Ferries.open();
        x.wagon(0, 0, 10, 60, 0);
        x.wagon(0, 0, 10, 20, 0);
        x.wagon(0, 0, 10, 20, 0);
        Due.same("later steps may list up to the WORST, too", x.loading(3, 0, 0), 60);
        steps(x, 0, 1, 0, 2, 0, 1);
        x.wagon(0, 1, 10, 20, 0);
        Due.same("the greater TRACK of the YARD, if the lesser leads to more", x.loading(2, 1, 0), 40);
        steps(x, 1, 1, 0, 2, 0, 0);
    }

    private static void allAreDrawnOff() {
        Due.sentence("An EMPTYING likewise: all on the DECK are drawn off");
        TrainFerry x = Ferries.open();
        Ferries.load(x, 1, 10, 10, 0);
        Ferries.load(x, 1, 10, 30, 0);
        Ferries.load(x, 2, 10, 20, 0);
        Due.same("the last of a TRACK first", x.emptying(), 10);
        emptied(x, 1, 2, 1);
        for (int i = 0; i < 3; i++) {
            Due.same("step " + i, x.off(x.emptied(0), 0), new int[] {10010, 9990, 10000}[i]);
        }
        Due.same("ferry(5)", x.ferry(5), 0);
    }

    private static void whereverTheyGo() {
        Due.sentence("(wherever they go)");
        TrainFerry x = Ferries.open();
        Ferries.load(x, 1, 26, 20, 0);
        for (int i = 0; i < 30; i++) {
            x.wagon(0, i / 10, 20, 10, 0);
        }
        Due.same("no room in the YARD", x.off(1, 0) + x.off(1, 1) + x.off(1, 2), -12);
        Due.same("emptying()", x.emptying(), 0);
        emptied(x, 1);
        x.ramp(0, true);
        Due.same("nor a RAMP", x.emptying(), 0);
        x.sail();
        Due.same("nor a SHORE", x.emptying(), 0);
        emptied(x, 1);
    }

    private static void listIsKeptInAnEmptying() {
        Due.sentence("LIST being kept");
        for (int limit = 39; limit <= 40; limit++) {
            TrainFerry x = Ferries.open();
            x.ship(100, limit, 5, 100);
            Ferries.load(x, 3, 10, 13, 0);
            Ferries.load(x, 1, 10, 40, 0);
            Ferries.load(x, 2, 10, 40, 0);
            x.off(3, 0);
            Due.same("LIST", x.ferry(1), 0);
            Due.same("40 of " + limit, x.emptying(), limit == 40 ? 40 : -1);
            Due.same("emptied(0)", x.emptied(0), limit == 40 ? 1 : -1);
        }
    }

    private static void leastWorstOfAnEmptying() {
        Due.sentence("the best likewise: of the least WORST");
        TrainFerry x = Ferries.open();
        Ferries.load(x, 3, 10, 30, 0);
        Ferries.load(x, 0, 10, 40, 0);
        Ferries.load(x, 2, 10, 50, 0);
        Due.same("LIST", x.ferry(1), 20);
        Due.same("-70, 50, 0", x.emptying(), 70);
        emptied(x, 3, 0, 2);
        x.off(2, 0);
        Due.same("LIST", x.ferry(1), -30);
        Due.same("two are left", x.emptying(), 90);
        emptied(x, 0, 3);
    }

    private static void emptyingWithoutSteps() {
        Due.sentence("0 without steps): an EMPTYING");
        TrainFerry x = Ferries.open();
        Due.same("an empty DECK", x.emptying(), 0);
        emptied(x);
        Ferries.load(x, 0, 10, 50, 0);
        Due.same("what is ahead of the first step does not count", x.emptying(), 0);
        emptied(x, 0);
        x.off(0, 0);
        Due.same("empty again", x.emptying(), 0);
        emptied(x);
    }

    private static void lesserTrackOfTheDeckFirst() {
        Due.sentence("the lesser TRACK of the DECK first");
        for (int lesser = 0; lesser < 3; lesser++) {
            for (int greater = lesser + 1; greater < 4; greater++) {
                TrainFerry x = Ferries.great();
                int arm = Math.abs(2 * lesser - 3);
                int otherArm = Math.abs(2 * greater - 3);
                Ferries.load(x, greater, 10, 10 * arm, 0);
                Ferries.load(x, lesser, 10, 10 * otherArm, 0);
                Due.same("of one size", x.emptying(), 10 * arm * otherArm);
                emptied(x, lesser, greater);
            }
        }
        TrainFerry y = Ferries.open();
        for (int track = 3; track >= 0; track--) {
            Ferries.load(y, track, 10, 10, 0);
        }
        Due.same("of four: 10, -20, 10, 0", y.emptying(), 20);
        emptied(y, 1, 3, 0, 2);
    }

    private static void noSuchTrack() {
        Due.sentence("-1 no such TRACK");
        TrainFerry x = Ferries.open();
        x.wagon(0, 0, 10, 10, 0);
        Ferries.load(x, 1, 10, 10, 0);
        int[][] on = {{-1, 0}, {3, 0}, {0, -1}, {0, 4}, {3, 4}, {Integer.MIN_VALUE, 0}, {0, Integer.MAX_VALUE}};
        for (int[] w : on) {
            Due.same("on(" + w[0] + ", " + w[1] + ")", x.on(w[0], w[1]), -1);
        }
        int[][] off = {{-1, 0}, {4, 0}, {1, -1}, {1, 3}, {4, 3}, {Integer.MAX_VALUE, 0}, {1, Integer.MIN_VALUE}};
        for (int[] w : off) {
            Due.same("off(" + w[0] + ", " + w[1] + ")", x.off(w[0], w[1]), -1);
        }
    }

    private static void noWagonThere() {
        Due.sentence("-1 .. no WAGON there");
        TrainFerry x = Ferries.open();
        x.wagon(0, 0, 10, 10, 0);
        x.wagon(1, 1, 10, 10, 0);
        for (int track = 0; track < 4; track++) {
            Due.same("off an empty TRACK", x.off(track, 0), -1);
        }
        Due.same("an empty TRACK of the YARD", x.on(2, 0), -1);
        Due.same("one of the other SHORE", x.on(1, 0), -1);
        Due.yes("on", x.on(0, 1) > 0);
        Due.same("it was the last there", x.on(0, 1), -1);
        Due.same("on another TRACK of the DECK", x.off(2, 0), -1);
        Due.yes("off", x.off(1, 0) > 0);
        Due.same("it was the last there", x.off(1, 0), -1);
    }

    private static void deckTracksAloneAtSea() {
        Due.sentence("(at sea the DECK's TRACKS alone are looked at)");
        TrainFerry x = Ferries.open();
        x.wagon(0, 0, 10, 10, 0);
        Ferries.load(x, 1, 10, 10, 0);
        x.sail();
        int[][] on = {{0, 0, -2}, {1, 3, -2}, {-1, 0, -2}, {3, 3, -2}, {0, -1, -1}, {0, 4, -1}, {3, 4, -1}};
        for (int[] w : on) {
            Due.same("on(" + w[0] + ", " + w[1] + ")", x.on(w[0], w[1]), w[2]);
        }
        int[][] off = {{1, 0, -2}, {1, -1, -2}, {1, 3, -2}, {0, 0, -1}, {3, 0, -1}, {-1, 0, -1}, {4, 0, -1}, {4, 3, -1}};
        for (int[] w : off) {
            Due.same("off(" + w[0] + ", " + w[1] + ")", x.off(w[0], w[1]), w[2]);
        }
    }

    private static void atSea() {
        Due.sentence("-2 the FERRY is at sea");
        TrainFerry x = Ferries.open();
        x.ship(40, 30, 5, 100);
        x.wagon(0, 0, 26, 90, 1);
        Ferries.load(x, 1, 26, 30, 0);
        x.sail();
        Due.same("ahead of room", x.on(0, 1), -2);
        Due.same("ahead of BARS", x.on(0, 2), -2);
        Due.same("ahead of LIST", x.on(0, 0), -2);
        x.ramp(0, true);
        x.ramp(1, true);
        Due.same("ahead of RAMPS", x.on(0, 0), -2);
        Due.same("off", x.off(1, 0), -2);
        x.ticks(9);
        Due.same("to the last TICK", x.off(1, 0), -2);
        x.ticks(1);
        Due.same("no more", x.off(1, 0), -3);
        x.ramp(1, false);
        Due.same("off", x.off(1, 0), 10000);
    }

    private static void rampIsNotOpen() {
        Due.sentence("-3 the RAMP is not OPEN");
        TrainFerry x = new TrainFerry();
        x.wagon(0, 0, 10, 10, 0);
        Due.same("without a TIDE", x.on(0, 1), -3);
        x.tide(1, 0, 0);
        Due.same("with the other SHORE's", x.on(0, 1), -3);
        x.tide(0, 0, 6);
        Due.same("too high", x.on(0, 1), -3);
        x.tide(0, 0, 5);
        x.ramp(1, true);
        Due.same("the other RAMP is broken", x.on(0, 1), 9990);
        x.ramp(0, true);
        Due.same("off, broken", x.off(1, 0), -3);
        x.ramp(0, false);
        x.tide(0, 1, -6);
        Due.same("off, too low", x.off(1, 0), -3);
        x.tide(0, 1, -5);
        Due.same("off", x.off(1, 0), 10000);
    }

    private static void noRoomForItsLength() {
        Due.sentence("-4 no room for its LENGTH");
        TrainFerry x = Ferries.open();
        x.ship(40, 200, 5, 100);
        Ferries.load(x, 1, 20, 10, 0);
        x.wagon(0, 0, 21, 10, 0);
        x.wagon(0, 1, 20, 10, 0);
        Due.same("41 of 40", x.on(0, 1), -4);
        Due.same("40 of 40", x.on(1, 1), 9980);
        for (int i = 0; i < 9; i++) {
            x.wagon(0, 1, 20, 10, 0);
        }
        x.wagon(0, 2, 26, 10, 0);
        for (int i = 0; i < 6; i++) {
            x.wagon(0, 2, 26, 10, 0);
        }
        Due.same("202 of 200", x.off(1, 2), -4);
        Due.same("200 of 200", x.off(1, 1), 9990);
        Due.same("220 of 200", x.off(1, 1), -4);
        Due.same("41 of 200", x.off(1, 0), 10000);
    }

    private static void tenAreThere() {
        Due.sentence("-4 .. ten are there");
        TrainFerry x = Ferries.great();
        for (int i = 0; i < 10; i++) {
            Due.yes("of ten", Ferries.load(x, 0, 6, 10, 0) > 0);
        }
        x.wagon(0, 0, 6, 10, 0);
        Due.same("an eleventh", x.on(0, 0), -4);
        x.off(0, 1);
        Due.yes("a tenth", x.on(0, 0) > 0);
    }

    private static void tenAreADecksAlone() {
        Due.sentence("ten are there (of a DECK's TRACK)");
        TrainFerry x = Ferries.open();
        Ferries.load(x, 1, 6, 10, 0);
        for (int i = 0; i < 32; i++) {
            x.wagon(0, 0, 6, 10, 0);
        }
        Due.same("a 33rd in the YARD", x.off(1, 0), 10000);
        Due.same("yard(0, 0, 32)", x.yard(0, 0, 32), 0);
        x.on(0, 1);
        x.wagon(0, 0, 6, 10, 0);
        Due.same("but no 34th", x.off(1, 0), -4);
    }

    private static void bars() {
        Due.sentence("-5 BARS");
        TrainFerry x = Ferries.open();
        x.wagon(0, 0, 10, 10, 1);
        x.wagon(0, 1, 10, 10, 2);
        Due.same("a sleeper on 1", x.on(0, 1), -5);
        Due.same("a sleeper on 2", x.on(0, 2), -5);
        Due.same("danger on 3", x.on(1, 3), 10030);
        Due.same("a sleeper with it", x.on(0, 3), -5);
        Due.same("a sleeper on 0", x.on(0, 0), 10000);
        x.wagon(0, 1, 10, 10, 2);
        Due.same("danger next to it", x.on(1, 1), -5);
        Due.same("danger with it", x.on(1, 0), -5);
        Due.same("off knows none", x.off(0, 0), 10030);
    }

    private static void list() {
        Due.sentence("-6 LIST");
        TrainFerry x = Ferries.open();
        x.ship(100, 30, 5, 100);
        x.wagon(0, 0, 10, 31, 0);
        x.wagon(0, 1, 10, 30, 0);
        Due.same("31 of 30", x.on(0, 2), -6);
        Due.same("-31 of 30", x.on(0, 1), -6);
        Due.same("30 of 30", x.on(1, 2), 10030);
        Due.same("-1", x.on(0, 1), 9999);
        Due.same("off: -31 of 30", x.off(2, 0), -6);
        Due.same("off: 30 of 30", x.off(1, 0), 10030);
    }

    /** LIST is -20 of 30; on TRACK 0 is room for 14 more, and danger is next to it. */
    private static TrainFerry laden() {
        TrainFerry x = Ferries.open();
        x.ship(40, 30, 5, 100);
        Ferries.load(x, 2, 6, 20, 0);
        Ferries.load(x, 1, 6, 10, 2);
        Ferries.load(x, 0, 26, 10, 0);
        x.wagon(1, 0, 26, 10, 1);
        x.wagon(1, 1, 14, 10, 1);
        x.ramp(1, true);
        x.sail();
        return x;
    }

    private static void theFirstThatHolds() {
        Due.sentence("REFUSALS of drawing, the first that holds");
        TrainFerry x = laden();
        Due.same("LIST", x.ferry(1), -20);
        Due.same("on: no such TRACK, ahead of the sea", x.on(0, 4), -1);
        Due.same("on: the sea, ahead of the RAMP", x.on(0, 0), -2);
        Due.same("off: no WAGON, ahead of the sea", x.off(3, 0), -1);
        Due.same("off: the sea, ahead of the RAMP", x.off(2, 0), -2);
        x.ticks(10);
        Due.same("on: no WAGON, ahead of the RAMP", x.on(2, 0), -1);
        Due.same("on: no such TRACK, ahead of the RAMP", x.on(3, 0), -1);
        Due.same("on: the RAMP, ahead of room, BARS and LIST", x.on(0, 0), -3);
        Due.same("off: no such TRACK, ahead of the RAMP", x.off(2, 3), -1);
        Due.same("off: the RAMP, ahead of LIST", x.off(2, 0), -3);
        x.ramp(1, false);
        Due.same("on: room, ahead of BARS and LIST", x.on(0, 0), -4);
        Due.same("on: BARS, ahead of LIST", x.on(1, 0), -5);
        x.wagon(1, 2, 15, 10, 0);
        Due.same("on: room, ahead of LIST", x.on(2, 0), -4);
        for (int i = 0; i < 9; i++) {
            x.wagon(1, 2, 20, 10, 0);
        }
        Due.same("off: room, ahead of LIST", x.off(2, 2), -4);
        Due.same("off: LIST", x.off(2, 0), -6);
        Due.same("on: LIST", x.on(2, 1), 9970);
        Due.same("no TICK but that one went", x.count(0), 14);
    }

    private static void refusedChangesNothing() {
        Due.sentence("What is refused changes nothing, no TICK goes.");
        TrainFerry x = laden();
        String atSea = Ferries.told(x);
        int[] drawn = {x.on(0, 4), x.on(0, 0), x.on(2, 3), x.off(3, 0), x.off(4, 0), x.off(2, 0), x.off(0, 3)};
        Due.same("refused at sea", Arrays.toString(drawn), "[-1, -2, -2, -1, -1, -2, -2]");
        Due.same("all it tells", Ferries.told(x), atSea);

        TrainFerry y = laden();
        y.ticks(10);
        String there = Ferries.told(y);
        drawn = new int[] {y.on(2, 0), y.on(3, 0), y.on(0, -1), y.on(1, 3), y.off(3, 0), y.off(1, 3), y.off(2, 0)};
        Due.same("refused at a closed RAMP", Arrays.toString(drawn), "[-1, -1, -1, -3, -1, -1, -3]");
        Due.same("all it tells", Ferries.told(y), there);

        TrainFerry z = laden();
        z.ticks(10);
        z.ramp(1, false);
        for (int i = 0; i < 8; i++) {
            z.wagon(1, 2, 25, 60, 0);
        }
        there = Ferries.told(z);
        drawn = new int[] {z.on(0, 0), z.on(1, 0), z.on(1, 1), z.on(2, 1), z.off(0, 2), z.off(2, 1)};
        Due.same("refused at an OPEN RAMP", Arrays.toString(drawn), "[-4, -5, -5, -6, -4, -6]");
        Due.same("all it tells", Ferries.told(z), there);
    }
}
