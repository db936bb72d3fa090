/** Promises 15 to 18: the best LOADING and the best EMPTYING. */
public final class SearchTest {
    public static void main(String[] args) {
        wrongLoadings();
        leastWorst();
        firstOfSeveral();
        loadingKeepsTheRules();
        stepsStay();
        loadingChangesNothing();
        noLoading();
        wrongSteps();
        leastEmptying();
        noEmptying();
        emptiedAsItIsNow();
        fullDeck();
        Due.close();
    }

    private static TrainFerry open() {
        TrainFerry x = new TrainFerry();
        x.tide(0, 0, 0);
        x.ship(100, 200, 50, 100);
        return x;
    }

    private static void steps(TrainFerry x, int... due) {
        for (int i = 0; i < due.length; i++) {
            Due.same("step(" + i / 2 + ", " + i % 2 + ")", x.step(i / 2, i % 2), due[i]);
        }
        Due.same("the step behind", x.step(due.length / 2, 0), -1);
    }

    private static void emptying(TrainFerry x, int... due) {
        for (int i = 0; i < due.length; i++) {
            Due.same("emptied(" + i + ")", x.emptied(i), due[i]);
        }
        Due.same("the step behind", x.emptied(due.length), -1);
    }

    private static void wrongLoadings() {
        TrainFerry x = open();
        for (int i = 0; i < 21; i++) {
            x.wagon(0, i / 7, 6, 10, 0);
        }
        int[][] wrong = {{-1, 0, 0}, {0, -1, 0}, {0, 0, -1}, {7, 0, 0}, {0, 7, 0}, {0, 0, 7}, {3, 3, 1}, {2, 2, 3},
            {-1, 3, 3}, {Integer.MAX_VALUE, Integer.MAX_VALUE, 2}, {Integer.MIN_VALUE, Integer.MIN_VALUE, 0}};
        for (int[] w : wrong) {
            Due.same("loading of wrong numbers", x.loading(w[0], w[1], w[2]), -1);
        }
        Due.same("six of one TRACK", x.loading(6, 0, 0), 10);
        Due.same("six of three TRACKS", x.loading(2, 2, 2), 10);
        Due.same("none", x.loading(0, 0, 0), 0);
        x.sail();
        Due.same("at sea", x.loading(0, 0, 0), -1);
        Due.same("at sea", x.loading(1, 0, 0), -1);
        x.ticks(10);
        Due.same("at the other SHORE none are there", x.loading(1, 0, 0), -1);
        x.wagon(1, 0, 6, 20, 0);
        Due.same("then there is one", x.loading(1, 0, 0), 20);
        Due.same("but not two", x.loading(2, 0, 0), -1);
    }

    private static void leastWorst() {
        TrainFerry x = open();
        x.wagon(0, 0, 10, 40, 0);
        x.wagon(0, 0, 10, 40, 0);
        x.wagon(0, 1, 10, 30, 1);
        Due.same("one", x.loading(1, 0, 0), 40);
        steps(x, 0, 1);
        Due.same("two", x.loading(2, 0, 0), 40);
        steps(x, 0, 1, 0, 2);
        Due.same("with a sleeper", x.loading(2, 1, 0), 50);
        steps(x, 0, 1, 1, 3, 0, 1);
    }

    private static void firstOfSeveral() {
        TrainFerry x = open();
        x.wagon(0, 2, 10, 20, 0);
        x.wagon(0, 1, 10, 20, 0);
        Due.same("the lesser TRACK of the YARD first", x.loading(0, 1, 1), 20);
        steps(x, 1, 1, 2, 2);
        x.on(1, 0);
        Due.same("back to 0 by the DECK", x.loading(0, 0, 1), 0);
        steps(x, 2, 3);
    }

    private static void loadingKeepsTheRules() {
        TrainFerry x = open();
        x.ship(40, 200, 50, 100);
        for (int i = 0; i < 3; i++) {
            x.wagon(0, 0, 20, 20, 0);
        }
        x.wagon(0, 1, 26, 40, 2);
        x.wagon(0, 2, 26, 40, 1);
        Due.same("length", x.loading(3, 0, 0), 20);
        steps(x, 0, 1, 0, 2, 0, 1);
        x.on(0, 1);
        x.on(0, 1);
        Due.same("a full TRACK", x.loading(1, 0, 0), 20);
        steps(x, 0, 2);
        Due.same("BARS", x.loading(0, 1, 1), 80);
        steps(x, 1, 3, 2, 0);
        x.ramp(0, true);
        Due.same("RAMPS aside", x.loading(0, 1, 1), 80);

        TrainFerry y = open();
        y.ship(200, 2000, 50, 100);
        int[] tracks = {1, 1, 1, 1, 1, 1, 1, 1, 1, 1, 2, 2, 3, 3, 3};
        for (int track : tracks) {
            y.wagon(0, 0, 6, 10, 0);
            y.on(0, track);
        }
        y.wagon(0, 0, 6, 10, 0);
        Due.same("LIST", y.ferry(1), 10);
        Due.same("ten are there", y.loading(1, 0, 0), 20);
        steps(y, 0, 0);
        y.off(1, 1);
        Due.same("nine are there", y.loading(1, 0, 0), 10);
        steps(y, 0, 0);
    }

    private static void stepsStay() {
        TrainFerry x = open();
        x.wagon(0, 0, 10, 20, 0);
        x.wagon(0, 1, 10, 30, 0);
        x.loading(0, 1, 0);
        steps(x, 1, 1);
        Due.same("NONE leaves it", x.loading(2, 0, 0), -1);
        steps(x, 1, 1);
        x.on(1, 1);
        steps(x, 1, 1);
        x.sail();
        Due.same("NONE at sea", x.loading(0, 0, 0), -1);
        steps(x, 1, 1);
        x.ticks(10);
        Due.same("of none", x.loading(0, 0, 0), 0);
        steps(x);
    }

    private static void loadingChangesNothing() {
        TrainFerry x = open();
        x.wagon(0, 0, 10, 20, 1);
        x.wagon(0, 0, 10, 30, 2);
        x.loading(2, 0, 0);
        Due.same("yard(0, 0, 0)", x.yard(0, 0, 0), 0);
        Due.same("ferry(1)", x.ferry(1), 0);
        Due.same("ferry(5)", x.ferry(5), 0);
        Due.same("count(0)", x.count(0), 0);
        Due.same("on", x.on(0, 0), 9940);
    }

    private static void noLoading() {
        TrainFerry x = open();
        x.ship(40, 29, 50, 100);
        x.wagon(0, 0, 10, 30, 0);
        Due.same("LIST", x.loading(1, 0, 0), -1);
        x.ship(40, 30, 50, 100);
        Due.same("LIST", x.loading(1, 0, 0), 30);
        x.wagon(0, 1, 10, 10, 1);
        x.wagon(0, 2, 10, 10, 2);
        x.wagon(0, 2, 10, 10, 1);
        x.wagon(0, 2, 10, 10, 1);
        Due.same("BARS leave 0 and 2, 3, or 3 and 0, 1", x.loading(0, 1, 1), 20);
        x.on(1, 0);
        Due.same("a sleeper on each side", x.loading(0, 0, 2), 30);
        steps(x, 2, 3, 2, 0);
        Due.same("no third one", x.loading(0, 0, 3), -1);
    }

    private static void wrongSteps() {
        TrainFerry x = open();
        x.wagon(0, 0, 10, 10, 0);
        x.loading(1, 0, 0);
        int[][] wrong = {{-1, 0}, {1, 0}, {6, 0}, {0, -1}, {0, 2}, {Integer.MAX_VALUE, 1}};
        for (int[] w : wrong) {
            Due.same("step(" + w[0] + ", " + w[1] + ")", x.step(w[0], w[1]), -1);
        }
    }

    private static void leastEmptying() {
        TrainFerry x = open();
        x.wagon(0, 0, 10, 40, 0);
        x.wagon(0, 0, 10, 40, 0);
        x.wagon(0, 0, 10, 30, 0);
        x.on(0, 0);
        x.on(0, 3);
        x.on(0, 1);
        Due.same("emptying()", x.emptying(), 90);
        emptying(x, 0, 3, 1);
        Due.same("emptied(-1)", x.emptied(-1), -1);
        x.sail();
        Due.same("at sea", x.emptying(), 90);
        emptying(x, 0, 3, 1);
    }

    private static void noEmptying() {
        TrainFerry x = open();
        x.ship(100, 35, 50, 100);
        x.wagon(0, 0, 10, 10, 0);
        x.wagon(0, 0, 10, 40, 0);
        x.wagon(0, 0, 10, 40, 0);
        Due.same("on(0, 3)", x.on(0, 3), 10030);
        Due.same("on(0, 1)", x.on(0, 1), 9990);
        Due.same("on(0, 2)", x.on(0, 2), 10030);
        Due.same("the other two first, by the third", x.emptying(), 30);
        emptying(x, 2, 1, 3);
        Due.same("off(3, 0)", x.off(3, 0), 10000);
        Due.same("40 of 35, either way", x.emptying(), -1);
        Due.same("emptied(0)", x.emptied(0), -1);
        Due.same("on(0, 3) again", x.on(0, 3), 10030);
        Due.same("and there is one again", x.emptying(), 30);
    }

    private static void emptiedAsItIsNow() {
        TrainFerry x = open();
        x.wagon(0, 0, 10, 10, 0);
        x.wagon(0, 0, 10, 20, 0);
        x.on(0, 1);
        Due.same("without emptying()", x.emptied(0), 1);
        x.on(0, 3);
        Due.same("the DECK as it is", x.emptied(0), 3);
        Due.same("emptied(1)", x.emptied(1), 1);
        x.off(3, 0);
        Due.same("and then", x.emptied(0), 1);
        Due.same("emptied(1)", x.emptied(1), -1);
        x.off(1, 0);
        Due.same("an empty DECK", x.emptied(0), -1);
        Due.same("an empty DECK", x.emptying(), 0);
    }

    private static void fullDeck() {
        TrainFerry x = open();
        x.ship(200, 2000, 50, 1000);
        for (int i = 0; i < 40; i++) {
            x.wagon(0, i / 20, 6, 10 + i % 4, 0);
        }
        x.tide(0, 0, 10);
        for (int i = 0; i < 40; i++) {
            Due.yes("on", x.on(i / 20, i % 4) > 0);
        }
        Due.same("ferry(5)", x.ferry(5), 40);
        int worst = x.emptying();
        Due.yes("there is an EMPTYING", worst >= 0);
        int[] tracks = new int[40];
        for (int i = 0; i < 40; i++) {
            tracks[i] = x.emptied(i);
        }
        Due.same("emptied(40)", x.emptied(40), -1);
        int greatest = 0;
        for (int i = 0; i < 40; i++) {
            int list = x.off(tracks[i], i % 3) - 10000;
            greatest = Math.max(greatest, Math.abs(list));
        }
        Due.same("its WORST", greatest, worst);
        Due.same("empty", x.ferry(5), 0);
    }
}
