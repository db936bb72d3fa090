/** The edges that promises 15 to 24 name, and the last of 512 calls: a test of its own for each. */
public final class AnswerEdgesTest {
    private static final int MIN = Integer.MIN_VALUE;
    private static final int MAX = Integer.MAX_VALUE;

    public static void main(String[] args) {
        loadingAtMostSix();
        loadingNotSoMany();
        loadingBelowZero();
        loadingAtSea();
        loadingNone();
        loadingChangesNothing();
        stepNumbers();
        stepOfTheLatest();
        stepAsItWasFound();
        emptyingNone();
        emptyingOfTheDeckAsItIs();
        emptiedNumbers();
        emptiedAsItIsNow();
        emptiedOfFortyWagons();
        isOpenNow();
        isOpenNoSuchShore();
        ferryShore();
        ferryList();
        ferryWeights();
        ferryChains();
        ferryTick();
        ferryWagons();
        ferryOthers();
        deckNumbers();
        yardNumbers();
        ofWhere();
        ofKindAndShore();
        ofWaited();
        ofPays();
        ofOthers();
        countTick();
        countWagonsAndAgreements();
        countInForce();
        countTape();
        countPays();
        countBeyondInt();
        countSailings();
        countOthers();
        fiveHundredAndTwelveCalls();
        Due.close();
    }

    private static void loadingAtMostSix() {
        Due.sentence("Promise 15: (together at most 6) .. above 6");
        TrainFerry x = Ferries.open();
        for (int i = 0; i < 21; i++) {
            x.wagon(0, i % 3, 6, 10, 0);
        }
        int[][] six = {{6, 0, 0}, {0, 6, 0}, {0, 0, 6}, {2, 2, 2}, {1, 2, 3}, {3, 3, 0}, {5, 0, 1}};
        for (int[] s : six) {
            Due.same("six", x.loading(s[0], s[1], s[2]), 10);
            Due.yes("step(5, 0)", x.step(5, 0) >= 0);
            Due.same("step(6, 0)", x.step(6, 0), -1);
        }
        int[][] more = {{7, 0, 0}, {0, 7, 0}, {0, 0, 7}, {3, 3, 1}, {2, 2, 3}, {6, 1, 0}, {0, 1, 6}, {MAX, MAX, 2},
            {MAX, 0, 0}, {0, MAX, 1}, {1, 0, MAX}, {MIN, MIN, 0}, {MAX, MIN, 1}};
        for (int[] m : more) {
            Due.same("more", x.loading(m[0], m[1], m[2]), -1);
        }
    }

    private static void loadingNotSoMany() {
        Due.sentence("Promise 15: NONE: not so many are there");
        TrainFerry x = Ferries.open();
        Due.same("none are there", x.loading(1, 0, 0), -1);
        for (int track = 0; track < 3; track++) {
            for (int i = 0; i <= track; i++) {
                x.wagon(0, track, 6, 10, 0);
            }
        }
        x.wagon(1, 0, 6, 10, 0);
        Due.same("all that are there", x.loading(1, 2, 3), 10);
        Due.same("TRACK 0", x.loading(2, 0, 0), -1);
        Due.same("TRACK 1", x.loading(0, 3, 0), -1);
        Due.same("TRACK 2", x.loading(0, 0, 4), -1);
        x.on(2, 1);
        Due.same("one went", x.loading(0, 0, 3), -1);
        Due.same("two are left", x.loading(0, 0, 2), 10);
    }

    private static void loadingBelowZero() {
        Due.sentence("Promise 15: NONE: .. below 0");
        TrainFerry x = Ferries.open();
        for (int i = 0; i < 12; i++) {
            x.wagon(0, i % 3, 6, 10, 0);
        }
        int[][] wrong = {{-1, 0, 0}, {0, -1, 0}, {0, 0, -1}, {-1, 2, 2}, {2, -1, 2}, {2, 2, -1}, {MIN, 0, 0}, {4, 4, -2}};
        for (int[] w : wrong) {
            Due.same("loading", x.loading(w[0], w[1], w[2]), -1);
        }
        Due.same("0", x.loading(0, 0, 0), 0);
    }

    private static void loadingAtSea() {
        Due.sentence("Promise 15: NONE: .. the FERRY is at sea");
        TrainFerry x = Ferries.open();
        x.wagon(0, 0, 6, 10, 0);
        x.wagon(1, 0, 6, 20, 0);
        x.sail();
        Due.same("at sea", x.loading(1, 0, 0), -1);
        Due.same("at sea, of none", x.loading(0, 0, 0), -1);
        x.ticks(9);
        Due.same("to the last TICK", x.loading(1, 0, 0), -1);
        x.ticks(1);
        Due.same("there", x.loading(1, 0, 0), 20);
    }

    private static void loadingNone() {
        Due.sentence("Promise 15: NONE: .. there is no LOADING");
        TrainFerry x = Ferries.open();
        x.ship(40, 9, 5, 100);
        x.wagon(0, 0, 26, 10, 0);
        Due.same("LIST", x.loading(1, 0, 0), -1);
        x.ship(40, 30, 5, 100);
        Due.same("LIST", x.loading(1, 0, 0), 10);
        for (int i = 0; i < 4; i++) {
            x.wagon(0, 0, 26, 10, 0);
        }
        Due.same("room", x.loading(4, 0, 0), 20);
        Due.same("room", x.loading(5, 0, 0), -1);
        x.wagon(0, 1, 6, 10, 1);
        x.wagon(0, 1, 6, 10, 1);
        x.wagon(0, 2, 6, 10, 2);
        x.on(1, 0);
        Due.same("BARS", x.loading(0, 0, 1), 0);
        x.on(1, 3);
        Due.same("BARS", x.loading(0, 0, 1), -1);
    }

    private static void loadingChangesNothing() {
        Due.sentence("Promise 15: it answers, and draws none");
        TrainFerry x = Ferries.open();
        Ferries.load(x, 0, 10, 10, 0);
        for (int i = 0; i < 6; i++) {
            x.wagon(0, i % 3, 10, 10 + 10 * i, i % 3);
        }
        String ahead = Ferries.told(x);
        Due.yes("loading", x.loading(2, 2, 2) > 0);
        Due.same("all it tells", Ferries.told(x), ahead);
        Due.same("and again", x.loading(2, 2, 2), x.loading(2, 2, 2));
    }

    private static void stepNumbers() {
        Due.sentence("Promise 16: (what 0 the YARD's TRACK, 1 the DECK's). NONE: there is none such.");
        TrainFerry x = Ferries.open();
        Due.same("no loading() yet", x.step(0, 0), -1);
        x.wagon(0, 2, 10, 10, 0);
        x.wagon(0, 2, 10, 10, 0);
        x.loading(0, 0, 2);
        int[][] due = {{0, 0, 2}, {0, 1, 1}, {1, 0, 2}, {1, 1, 2}, {2, 0, -1}, {2, 1, -1}, {-1, 0, -1}, {-1, 1, -1},
            {0, 2, -1}, {0, -1, -1}, {5, 0, -1}, {6, 0, -1}, {MAX, 0, -1}, {MIN, 1, -1}, {0, MAX, -1}, {0, MIN, -1}};
        for (int[] d : due) {
            Due.same("step(" + d[0] + ", " + d[1] + ")", x.step(d[0], d[1]), d[2]);
        }
        x.loading(0, 0, 0);
        Due.same("a LOADING without steps", x.step(0, 0), -1);
    }

    private static void stepOfTheLatest() {
        Due.sentence("Promise 16: the latest loading() that was not NONE");
        TrainFerry x = Ferries.open();
        Due.same("NONE", x.loading(1, 0, 0), -1);
        Due.same("step(0, 0)", x.step(0, 0), -1);
        x.wagon(0, 0, 10, 10, 0);
        x.wagon(0, 1, 10, 10, 0);
        x.loading(1, 0, 0);
        Due.same("of the first", x.step(0, 0), 0);
        x.loading(0, 1, 0);
        Due.same("of the second", x.step(0, 0), 1);
        Due.same("not so many", x.loading(2, 0, 0), -1);
        Due.same("below 0", x.loading(-1, 0, 0), -1);
        Due.same("step(0, 0)", x.step(0, 0), 1);
        for (int i = 0; i < 6; i++) {
            x.wagon(0, 0, 10, 10, 0);
        }
        Due.same("above 6", x.loading(7, 0, 0), -1);
        Due.same("above 6 together", x.loading(6, 1, 0), -1);
        Due.same("step(0, 0)", x.step(0, 0), 1);
        x.ship(100, 9, 5, 100);
        Due.same("no LOADING", x.loading(1, 0, 0), -1);
        Due.same("step(0, 0)", x.step(0, 0), 1);
        x.sail();
        Due.same("at sea", x.loading(0, 0, 0), -1);
        Due.same("step(0, 0)", x.step(0, 0), 1);
        Due.same("step(0, 1)", x.step(0, 1), 1);
        Due.same("step(1, 0)", x.step(1, 0), -1);
        x.ticks(10);
        x.loading(0, 0, 0);
        Due.same("of none", x.step(0, 0), -1);
    }

    private static void stepAsItWasFound() {
        Due.sentence("Promise 16: the best LOADING as .. loading() .. found it");
        TrainFerry x = Ferries.open();
        x.wagon(0, 0, 10, 10, 0);
        x.wagon(0, 0, 10, 20, 0);
        x.loading(2, 0, 0);
        Due.same("step(0, 1)", x.step(0, 1), 1);
        Due.same("step(1, 1)", x.step(1, 1), 2);
        x.on(0, 3);
        x.on(0, 0);
        x.wagon(0, 1, 10, 30, 1);
        Due.same("the DECK is another", x.step(0, 1), 1);
        Due.same("the YARD is another", x.step(1, 0), 0);
        Due.same("step(1, 1)", x.step(1, 1), 2);
        Due.same("step(2, 0)", x.step(2, 0), -1);
        x.loading(0, 1, 0);
        Due.same("found anew", x.step(0, 0), 1);
        Due.same("found anew", x.step(0, 1), 3);
        Due.same("found anew", x.step(1, 0), -1);
    }

    private static void emptyingNone() {
        Due.sentence("Promise 17: NONE: there is none.");
        TrainFerry x = Ferries.open();
        x.ship(100, 35, 5, 100);
        Ferries.load(x, 3, 10, 10, 0);
        Ferries.load(x, 1, 10, 40, 0);
        Ferries.load(x, 2, 10, 40, 0);
        Due.same("there is one", x.emptying(), 30);
        x.off(3, 0);
        Due.same("40 of 35, either way", x.emptying(), -1);
        Due.same("emptied(0)", x.emptied(0), -1);
        x.on(0, 3);
        Due.same("there is one again", x.emptying(), 30);
    }

    private static void emptyingOfTheDeckAsItIs() {
        Due.sentence("Promise 17: the best EMPTYING of the DECK as it is");
        TrainFerry x = Ferries.open();
        Due.same("empty", x.emptying(), 0);
        Ferries.load(x, 1, 10, 10, 0);
        Due.same("one", x.emptying(), 0);
        Ferries.load(x, 2, 10, 20, 0);
        Due.same("two", x.emptying(), 10);
        String ahead = Ferries.told(x);
        Due.same("and again", x.emptying(), 10);
        Due.same("none is drawn", Ferries.told(x), ahead);
        Ferries.load(x, 2, 10, 20, 0);
        Due.same("three", x.emptying(), 10);
        x.off(2, 0);
        x.off(1, 0);
        Due.same("one", x.emptying(), 0);
        Due.same("emptied(0)", x.emptied(0), 2);
    }

    private static void emptiedNumbers() {
        Due.sentence("Promise 18: NONE: no such step, no EMPTYING");
        TrainFerry x = Ferries.open();
        Due.same("an empty DECK", x.emptied(0), -1);
        Ferries.load(x, 1, 10, 10, 0);
        Ferries.load(x, 2, 10, 10, 0);
        int[][] due = {{0, 1}, {1, 2}, {2, -1}, {-1, -1}, {39, -1}, {40, -1}, {MAX, -1}, {MIN, -1}};
        for (int[] d : due) {
            Due.same("emptied(" + d[0] + ")", x.emptied(d[0]), d[1]);
        }
        TrainFerry y = Ferries.open();
        y.ship(100, 35, 5, 100);
        Ferries.load(y, 3, 10, 10, 0);
        Ferries.load(y, 1, 10, 40, 0);
        Ferries.load(y, 2, 10, 40, 0);
        Due.same("there is one", y.emptied(0), 2);
        y.off(3, 0);
        for (int i = 0; i < 3; i++) {
            Due.same("there is none", y.emptied(i), -1);
        }
    }

    private static void emptiedAsItIsNow() {
        Due.sentence("Promise 18: step i of that (as it is now)");
        TrainFerry x = Ferries.open();
        Ferries.load(x, 1, 10, 10, 0);
        Due.same("without emptying()", x.emptied(0), 1);
        Ferries.load(x, 3, 10, 20, 0);
        Due.same("one more on the DECK", x.emptied(0), 3);
        Due.same("emptied(1)", x.emptied(1), 1);
        x.emptying();
        x.off(3, 0);
        Due.same("one less", x.emptied(0), 1);
        Due.same("emptied(1)", x.emptied(1), -1);
        x.sail();
        Due.same("at sea", x.emptied(0), 1);
        x.ticks(10);
        x.off(1, 0);
        Due.same("none", x.emptied(0), -1);
    }

    private static void emptiedOfFortyWagons() {
        Due.sentence("Promise 18: a full DECK, of the most steps that there can be");
        TrainFerry x = Ferries.great();
        for (int i = 0; i < 40; i++) {
            Due.yes("on", Ferries.load(x, i % 4, 6, 10 + i, 0) > 0);
        }
        int worst = x.emptying();
        int[] tracks = new int[40];
        for (int i = 0; i < 40; i++) {
            tracks[i] = x.emptied(i);
        }
        Due.same("emptied(40)", x.emptied(40), -1);
        int greatest = 0;
        for (int i = 0; i < 40; i++) {
            greatest = Math.max(greatest, Math.abs(x.off(tracks[i], i % 3) - 10000));
        }
        Due.same("the WORST of its steps", greatest, worst);
        Due.same("all are off", x.ferry(5), 0);
        TrainFerry y = Ferries.great();
        for (int i = 0; i < 40; i++) {
            Ferries.load(y, i % 4, 6, 10, 0);
        }
        Due.same("of 40 alike: 10 and then 20, as an outer one must go", y.emptying(), 20);
    }

    private static void isOpenNow() {
        Due.sentence("Promise 19: Whether a SHORE's RAMP is OPEN in the TICK at hand");
        TrainFerry x = new TrainFerry();
        x.tide(0, 1, 0);
        x.tide(0, 2, 6);
        x.tide(1, 2, -5);
        int[][] due = {{0, 0}, {1, 0}, {0, 1}, {0, 1}};
        for (int[] d : due) {
            Due.same("isOpen(0)", x.isOpen(0) ? 1 : 0, d[0]);
            Due.same("isOpen(1)", x.isOpen(1) ? 1 : 0, d[1]);
            x.ticks(1);
        }
    }

    private static void isOpenNoSuchShore() {
        Due.sentence("Promise 19: NoSuchElementException: no such SHORE");
        TrainFerry x = Ferries.open();
        String ahead = Ferries.told(x);
        for (int shore : new int[] {-1, 2, 3, MIN, MAX}) {
            Due.noSuchShore(x, shore);
        }
        Due.same("nothing is changed", Ferries.told(x), ahead);
    }

    private static void ferryShore() {
        Due.sentence("Promise 20: 0 its SHORE (2 at sea)");
        TrainFerry x = new TrainFerry();
        for (int shore : new int[] {0, 1, 0}) {
            Due.same("ferry(0)", x.ferry(0), shore);
            x.sail();
            Due.same("ferry(0)", x.ferry(0), 2);
            x.ticks(9);
            Due.same("ferry(0)", x.ferry(0), 2);
            x.ticks(1);
        }
        Due.same("ferry(0)", x.ferry(0), 1);
    }

    private static void ferryList() {
        Due.sentence("Promise 20: 1 LIST");
        TrainFerry x = Ferries.great();
        Due.same("an empty DECK", x.ferry(1), 0);
        Ferries.load(x, 0, 6, 90, 0);
        Due.same("ferry(1)", x.ferry(1), -270);
        Ferries.load(x, 2, 6, 11, 0);
        Due.same("ferry(1)", x.ferry(1), -259);
        x.sail();
        Due.same("at sea", x.ferry(1), -259);
        x.ticks(10);
        x.off(0, 0);
        Due.same("ferry(1)", x.ferry(1), 11);
    }

    private static void ferryWeights() {
        Due.sentence("Promise 20: 2 all WEIGHTS on the DECK");
        TrainFerry x = Ferries.great();
        x.wagon(0, 0, 6, 90, 0);
        Due.same("those in the YARD aside", x.ferry(2), 0);
        for (int track = 0; track < 4; track++) {
            Ferries.load(x, track, 6, 10 + track, track == 1 || track == 2 ? 0 : 3);
        }
        Due.same("ferry(2)", x.ferry(2), 46);
        x.off(2, 1);
        Due.same("ferry(2)", x.ferry(2), 34);
        x.sail();
        Due.same("at sea", x.ferry(2), 34);
    }

    private static void ferryChains() {
        Due.sentence("Promise 20: 3 CHAINS that it would need now");
        TrainFerry x = Ferries.open();
        x.sea(5);
        Due.same("an empty DECK", x.ferry(3), 0);
        Ferries.load(x, 0, 10, 10, 1);
        Ferries.load(x, 3, 10, 10, 2);
        Ferries.load(x, 1, 10, 10, 0);
        Ferries.load(x, 2, 10, 10, 3);
        for (int sea = 0; sea <= 5; sea++) {
            x.sea(sea);
            Due.same("at SEA " + sea, x.ferry(3), 6 * sea);
        }
        x.sea(1);
        x.sail();
        x.sea(3);
        Due.same("at sea, as SEA is now", x.ferry(3), 18);
    }

    private static void ferryTick() {
        Due.sentence("Promise 20: 4 the TICK in which it will be there (NONE at a SHORE)");
        TrainFerry x = new TrainFerry();
        Due.same("at a SHORE", x.ferry(4), -1);
        x.ticks(5);
        x.sea(1);
        x.sail();
        Due.same("at sea", x.ferry(4), 18);
        x.sea(4);
        x.ticks(12);
        Due.same("to the last TICK", x.ferry(4), 18);
        x.ticks(1);
        Due.same("at a SHORE", x.ferry(4), -1);
        x.sea(5);
        x.sail();
        Due.same("refused", x.ferry(4), -1);
    }

    private static void ferryWagons() {
        Due.sentence("Promise 20: 5 WAGONS on the DECK");
        TrainFerry x = Ferries.great();
        for (int i = 0; i < 40; i++) {
            Due.same("ferry(5)", x.ferry(5), i);
            Ferries.load(x, i % 4, 6, 10, 0);
        }
        Due.same("the most there can be", x.ferry(5), 40);
        for (int track = 0; track < 4; track++) {
            Due.same("full", Ferries.load(x, track, 6, 10, 0), -4);
        }
        x.off(0, 0);
        Due.same("ferry(5)", x.ferry(5), 39);
    }

    private static void ferryOthers() {
        Due.sentence("Promise 20: (NoSuchElementException for another what)");
        TrainFerry x = Ferries.open();
        String ahead = Ferries.told(x);
        for (int what : new int[] {-1, 6, 7, MIN, MAX}) {
            Due.noSuchThing(x, what);
        }
        Due.same("nothing is changed", Ferries.told(x), ahead);
        x.sail();
        Due.noSuchThing(x, -1);
        Due.noSuchThing(x, 6);
    }

    private static void deckNumbers() {
        Due.sentence("Promise 21: The i-th WAGON on a TRACK of the DECK, 0 the first drawn on; NONE.");
        TrainFerry x = Ferries.great();
        Due.same("an empty TRACK", x.deck(1, 0), -1);
        for (int i = 0; i < 10; i++) {
            Ferries.load(x, 1, 6, 10, 0);
        }
        for (int i = 0; i < 10; i++) {
            Due.same("deck(1, " + i + ")", x.deck(1, i), i);
        }
        for (int i : new int[] {-1, 10, 11, MIN, MAX}) {
            Due.same("deck(1, " + i + ")", x.deck(1, i), -1);
        }
        for (int track : new int[] {-1, 4, 0, 2, 3, MIN, MAX}) {
            Due.same("deck(" + track + ", 0)", x.deck(track, 0), -1);
        }
        x.off(1, 0);
        Due.same("the last went", x.deck(1, 9), -1);
        Due.same("the one ahead of it", x.deck(1, 8), 8);
    }

    private static void yardNumbers() {
        Due.sentence("Promise 22: The i-th WAGON on a TRACK of a SHORE's YARD, 0 the head; NONE.");
        TrainFerry x = Ferries.open();
        Due.same("an empty TRACK", x.yard(0, 1, 0), -1);
        for (int i = 0; i < 33; i++) {
            x.wagon(0, 1, 6, 10, 0);
        }
        for (int i : new int[] {0, 1, 31, 32}) {
            Due.same("yard(0, 1, " + i + ")", x.yard(0, 1, i), i);
        }
        for (int i : new int[] {-1, 33, 34, MIN, MAX}) {
            Due.same("yard(0, 1, " + i + ")", x.yard(0, 1, i), -1);
        }
        for (int track : new int[] {-1, 0, 2, 3, MIN, MAX}) {
            Due.same("yard(0, " + track + ", 0)", x.yard(0, track, 0), -1);
        }
        for (int shore : new int[] {-1, 1, 2, MIN, MAX}) {
            Due.same("yard(" + shore + ", 1, 0)", x.yard(shore, 1, 0), -1);
        }
        x.on(1, 0);
        Due.same("the head went", x.yard(0, 1, 0), 1);
        Due.same("the tail", x.yard(0, 1, 31), 32);
        Due.same("none behind it", x.yard(0, 1, 32), -1);
    }

    private static void ofWhere() {
        Due.sentence("Promise 23: 0 where it is (0, 1: in that SHORE's YARD, 2: on the DECK), 1 its TRACK there");
        TrainFerry x = Ferries.open();
        x.wagon(0, 2, 10, 10, 0);
        x.wagon(1, 1, 10, 10, 0);
        int[][] due = {{0, 2}, {1, 1}};
        for (int i = 0; i < 2; i++) {
            Due.same("of(" + i + ", 0)", x.of(i, 0), due[i][0]);
            Due.same("of(" + i + ", 1)", x.of(i, 1), due[i][1]);
        }
        x.on(2, 3);
        Due.same("on the DECK", x.of(0, 0), 2);
        Due.same("its TRACK", x.of(0, 1), 3);
        x.sail();
        Due.same("at sea", x.of(0, 0), 2);
        x.ticks(10);
        x.off(3, 0);
        Due.same("at the other SHORE", x.of(0, 0), 1);
        Due.same("its TRACK", x.of(0, 1), 0);
    }

    private static void ofKindAndShore() {
        Due.sentence("Promise 23: 2 KIND .. 9 the SHORE where it came");
        TrainFerry x = Ferries.open();
        for (int i = 0; i < 8; i++) {
            x.wagon(i / 4, 0, 10, 10, i % 4);
            Due.same("of(" + i + ", 2)", x.of(i, 2), i % 4);
            Due.same("of(" + i + ", 9)", x.of(i, 9), i / 4);
        }
        x.on(0, 0);
        x.sail();
        x.ticks(10);
        x.off(0, 0);
        Due.same("that is not where it is", x.of(0, 9), 0);
        Due.same("of(0, 2)", x.of(0, 2), 0);
    }

    private static void ofWaited() {
        Due.sentence("Promise 23: 3 to 6 TICKS that it WAITED by CAUSES 0 to 3");
        TrainFerry x = new TrainFerry();
        x.wagon(0, 0, 10, 10, 0);
        for (int what = 3; what <= 6; what++) {
            Due.same("at first", x.of(0, what), 0);
        }
        x.sea(5);
        x.ticks(1);
        x.sea(0);
        x.ticks(2);
        x.tide(0, 3, 0);
        x.sail();
        x.ticks(10);
        x.sail();
        x.ticks(10);
        x.ticks(4);
        int[] due = {1, 2, 20, 4};
        for (int cause = 0; cause < 4; cause++) {
            Due.same("of(0, " + (3 + cause) + ")", x.of(0, 3 + cause), due[cause]);
        }
        for (int i = 0; i < 400; i++) {
            x.ticks(200);
        }
        Due.same("many TICKS", x.of(0, 6), 80004);
    }

    private static void ofPays() {
        Due.sentence("Promise 23: 7 what its owner pays, 8 what the ferry does");
        TrainFerry x = new TrainFerry();
        x.wagon(0, 0, 10, 10, 0);
        Due.tell(x, "rate ramp 5 both;rate storm 7 owner;");
        x.agree(0);
        Due.same("at first", x.of(0, 7), 0);
        Due.same("at first", x.of(0, 8), 0);
        x.ticks(1);
        Due.same("owner", x.of(0, 7), 2);
        Due.same("ferry", x.of(0, 8), 3);
        x.sea(5);
        x.ticks(2);
        Due.same("owner", x.of(0, 7), 16);
        Due.same("ferry", x.of(0, 8), 3);
        Due.tell(x, "rate storm 9999 owner;");
        x.agree(3);
        for (int i = 0; i < 480; i++) {
            x.ticks(200);
        }
        Due.same("the most there can be", x.of(0, 7), 16 + 96000 * 9999);
    }

    private static void ofOthers() {
        Due.sentence("Promise 23: NONE for others.");
        TrainFerry x = new TrainFerry();
        Due.same("no WAGON yet", x.of(0, 0), -1);
        x.wagon(0, 0, 10, 10, 0);
        int[][] wrong = {{-1, 0}, {1, 0}, {99, 2}, {100, 2}, {MIN, 0}, {MAX, 0}, {0, -1}, {0, 10}, {0, MIN}, {0, MAX}, {1, 10}};
        for (int[] w : wrong) {
            Due.same("of(" + w[0] + ", " + w[1] + ")", x.of(w[0], w[1]), -1);
        }
        for (int what = 0; what <= 9; what++) {
            Due.yes("of(0, " + what + ")", x.of(0, what) >= 0);
            Due.same("of(1, " + what + ")", x.of(1, what), -1);
        }
    }

    private static void countTick() {
        Due.sentence("Promise 24: 0 the TICK at hand");
        TrainFerry x = Ferries.open();
        Due.same("at first", x.count(0), 0);
        x.ticks(200);
        Due.same("count(0)", x.count(0), 200);
        Ferries.load(x, 0, 10, 10, 0);
        Due.same("behind a draw", x.count(0), 201);
        x.ticks(201);
        x.on(0, 0);
        x.sail();
        Due.same("behind what is refused, and a sailing", x.count(0), 201);
    }

    private static void countWagonsAndAgreements() {
        Due.sentence("Promise 24: 1 WAGONS, 2 AGREEMENTS");
        TrainFerry x = Ferries.open();
        for (int i = 0; i < 20; i++) {
            Due.same("count(1)", x.count(1), i);
            Due.same("count(2)", x.count(2), i);
            x.wagon(0, i % 3, 10, 10, 0);
            x.agree(4000 + i);
        }
        x.on(0, 0);
        x.agree(0);
        x.wagon(2, 0, 10, 10, 0);
        Due.same("one on the DECK counts, a refused one does not", x.count(1), 20);
        Due.same("a refused one does not", x.count(2), 20);
        Due.same("none is in force", x.count(3), -1);
    }

    private static void countInForce() {
        Due.sentence("Promise 24: 3 the one in force now (NONE)");
        TrainFerry x = new TrainFerry();
        Due.same("there is none", x.count(3), -1);
        x.agree(2);
        Due.same("none yet", x.count(3), -1);
        x.ticks(1);
        Due.same("none yet", x.count(3), -1);
        x.ticks(1);
        Due.same("number 0", x.count(3), 0);
        x.agree(2);
        Due.same("number 1", x.count(3), 1);
        x.agree(4);
        x.agree(3);
        Due.same("number 1", x.count(3), 1);
        x.ticks(1);
        Due.same("number 3", x.count(3), 3);
        x.ticks(1);
        Due.same("number 2", x.count(3), 2);
        x.ticks(200);
        Due.same("it stays", x.count(3), 2);
    }

    private static void countTape() {
        Due.sentence("Promise 24: 4 bytes of the TAPE, 5 SEA");
        TrainFerry x = new TrainFerry();
        Due.same("count(4)", x.count(4), 0);
        for (int i = 1; i <= 15; i++) {
            x.feed(0, 0, 0, 0, 0);
            Due.same("count(4)", x.count(4), 20 * i);
        }
        x.feed(0, 0, 0, 0, 0);
        Due.same("the most there can be", x.count(4), 300);
        x.end(13);
        Due.same("count(4)", x.count(4), 13);
        x.agree(0);
        Due.same("count(4)", x.count(4), 0);
        for (int sea = 5; sea >= 0; sea--) {
            x.sea(sea);
            x.sea(6);
            Due.same("count(5)", x.count(5), sea);
        }
    }

    private static void countPays() {
        Due.sentence("Promise 24: 6 what all owners pay, 7 what the ferry does");
        TrainFerry x = Ferries.open();
        Due.tell(x, "rate other 5 both;rate away 10 owner;");
        x.agree(0);
        x.wagon(0, 0, 10, 10, 0);
        x.wagon(0, 1, 10, 10, 0);
        x.wagon(1, 0, 10, 10, 0);
        Due.same("at first", x.count(6), 0);
        x.ticks(1);
        Due.same("owners", x.count(6), 2 + 2 + 10);
        Due.same("ferry", x.count(7), 3 + 3);
        x.on(0, 0);
        Due.same("owners, of one on the DECK, too", x.count(6), 14 + 2 + 10);
        Due.same("ferry, of one on the DECK, too", x.count(7), 6 + 3);
    }

    private static void countBeyondInt() {
        Due.sentence("Promise 24: long count: sums above the greatest int do not wrap around");
        String[] parties = {"owner", "ferry"};
        for (int i = 0; i < 2; i++) {
            TrainFerry x = new TrainFerry();
            Due.tell(x, "rate ramp 9999 " + parties[i] + ";");
            x.agree(0);
            for (int wagon = 0; wagon < 100; wagon++) {
                x.wagon(wagon / 60, wagon / 20 % 3, 10, 10, 0);
            }
            for (int j = 0; j < 300; j++) {
                x.ticks(200);
            }
            long all = 100L * 60000 * 9999;
            Due.same("count(6)", x.count(6), i == 0 ? all : 0);
            Due.same("count(7)", x.count(7), i == 0 ? 0 : all);
            Due.same("of one", x.of(99, 7 + i), 60000 * 9999);
        }
    }

    private static void countSailings() {
        Due.sentence("Promise 24: 8 sailings");
        TrainFerry x = new TrainFerry();
        x.sea(5);
        x.sail();
        Due.same("a refused one is none", x.count(8), 0);
        x.sea(0);
        for (int i = 1; i <= 3; i++) {
            x.sail();
            Due.same("count(8)", x.count(8), i);
            x.sail();
            Due.same("a refused one is none", x.count(8), i);
            x.ticks(10);
            Due.same("count(8)", x.count(8), i);
        }
    }

    private static void countOthers() {
        Due.sentence("Promise 24: NONE for others.");
        TrainFerry x = new TrainFerry();
        for (int what : new int[] {-1, 9, 10, MIN, MAX}) {
            Due.same("count(" + what + ")", x.count(what), -1);
        }
        for (int what = 0; what <= 8; what++) {
            Due.same("count(" + what + ")", x.count(what), what == 3 ? -1 : 0);
        }
    }

    private static void fiveHundredAndTwelveCalls() {
        Due.sentence("An object is used for at most 512 calls after it has been made");
        TrainFerry x = Ferries.open();
        x.wagon(0, 0, 10, 10, 0);
        for (int i = 0; i < 127; i++) {
            Due.same("on", x.on(0, 2), 10010);
            Due.same("emptying", x.emptying(), 0);
            Due.same("off", x.off(2, 0), 10000);
            Due.same("loading", x.loading(1, 0, 0), 10);
        }
        Due.same("the 512th call", x.count(0), 254);

        TrainFerry y = new TrainFerry();
        for (int i = 0; i < 256; i++) {
            y.feed(0x66726565, 0x20313b20, 0x20202020, 0x20202020, 0x20202020);
            Due.same("agree", y.agree(i), i < 20 ? i : -1);
        }
    }
}
