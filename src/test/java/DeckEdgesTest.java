/** The edges of the document's Terms, ==== 1: a test of its own for each sentence or part of one. */
public final class DeckEdgesTest {
    private static final int MIN = Integer.MIN_VALUE;
    private static final int MAX = Integer.MAX_VALUE;

    public static void main(String[] args) {
        shores();
        hundredWagons();
        numberedAsTheyCome();
        lengths();
        weights();
        kinds();
        yardTracks();
        twoHundredLongEach();
        notAbove200Together();
        roomOfTheOneThatWent();
        theFirstIsTheHead();
        comesToTheTail();
        deckTracks();
        deckLengthAtFirst();
        arms();
        atMostTen();
        lengthsTogether();
        becomesTheLast();
        onlyTheLast();
        listIsTheSum();
        limitAtFirstOn();
        limitAtFirstOff();
        leastAndGreatestLimit();
        sleepersOn0And3();
        notOnOneTrack();
        notNextToOneAnother();
        notTheLastOne();
        barsWhenTheyWent();
        tideOfTheLatestTick();
        tideLastTold();
        tideNone();
        heightByForty();
        heightNegative();
        heightElsewhere();
        reachAtFirst();
        leastAndGreatestReach();
        notBroken();
        Due.close();
    }

    private static void shores() {
        Due.sentence("SHORES 0, 1.");
        TrainFerry x = Ferries.open();
        for (int shore = 0; shore <= 1; shore++) {
            Due.same("wagon of " + shore, x.wagon(shore, 0, 10, 10, 0), shore);
            Due.same("yard of " + shore, x.yard(shore, 0, 0), shore);
            Due.yes("tide of " + shore, x.tide(shore, 0, 0));
            Due.yes("isOpen of " + shore, x.isOpen(shore));
            Due.yes("ramp of " + shore, x.ramp(shore, true));
        }
        for (int shore : new int[] {-1, 2, MIN, MAX}) {
            Due.same("wagon of " + shore, x.wagon(shore, 0, 10, 10, 0), -1);
            Due.same("yard of " + shore, x.yard(shore, 0, 0), -1);
            Due.no("tide of " + shore, x.tide(shore, 0, 0));
            Due.noSuchShore(x, shore);
            Due.no("ramp breaks of " + shore, x.ramp(shore, true));
            Due.no("ramp is mended of " + shore, x.ramp(shore, false));
        }
    }

    private static void hundredWagons() {
        Due.sentence("WAGONS, at most 100");
        TrainFerry x = new TrainFerry();
        for (int i = 0; i < 99; i++) {
            x.wagon(i % 2, i / 2 % 3, 6, 10, 0);
        }
        Due.same("the hundredth", x.wagon(0, 0, 6, 10, 0), 99);
        for (int track = 0; track < 6; track++) {
            Due.same("one more", x.wagon(track % 2, track / 2, 6, 10, 0), -1);
        }
        Due.same("count(1)", x.count(1), 100);
        Due.same("of(99, 2)", x.of(99, 2), 0);
        Due.same("of(100, 2)", x.of(100, 2), -1);
    }

    private static void numberedAsTheyCome() {
        Due.sentence("numbered as they come");
        TrainFerry x = new TrainFerry();
        Due.same("first", x.wagon(1, 2, 6, 10, 0), 0);
        Due.same("refused, so it takes no number", x.wagon(1, 2, 5, 10, 0), -1);
        Due.same("second", x.wagon(0, 0, 6, 10, 1), 1);
        Due.same("third", x.wagon(1, 2, 6, 10, 2), 2);
        Due.same("yard(1, 2, 0)", x.yard(1, 2, 0), 0);
        Due.same("yard(0, 0, 0)", x.yard(0, 0, 0), 1);
        Due.same("yard(1, 2, 1)", x.yard(1, 2, 1), 2);
    }

    /** A WAGON with each of these numbers in one place is refused, those in right come. */
    private static void wagonNumbers(int place, int[] right, int[] wrong) {
        TrainFerry x = new TrainFerry();
        int[] w = {0, 0, 10, 10, 0};
        for (int number : wrong) {
            w[place] = number;
            Due.same("wagon with " + number, x.wagon(w[0], w[1], w[2], w[3], w[4]), -1);
        }
        Due.same("count(1)", x.count(1), 0);
        for (int i = 0; i < right.length; i++) {
            w[place] = right[i];
            Due.same("wagon with " + right[i], x.wagon(w[0], w[1], w[2], w[3], w[4]), i);
        }
    }

    private static void lengths() {
        Due.sentence("a LENGTH (6 to 26)");
        wagonNumbers(2, new int[] {6, 7, 25, 26}, new int[] {5, 27, 0, -6, -26, 200, MIN, MAX});
    }

    private static void weights() {
        Due.sentence("a WEIGHT (10 to 90)");
        wagonNumbers(3, new int[] {10, 11, 89, 90}, new int[] {9, 91, 0, -10, -90, MIN, MAX});
    }

    private static void kinds() {
        Due.sentence("a KIND (0 goods, 1 sleeper, 2 danger, 3 empty)");
        wagonNumbers(4, new int[] {0, 1, 2, 3}, new int[] {-1, 4, MIN, MAX});
    }

    private static void yardTracks() {
        Due.sentence("Each SHORE has a YARD of TRACKS 0 to 2");
        wagonNumbers(1, new int[] {0, 1, 2}, new int[] {-1, 3, 4, MIN, MAX});
        TrainFerry x = Ferries.open();
        for (int i = 0; i < 6; i++) {
            x.wagon(i / 3, i % 3, 10, 10, 0);
            Due.same("yard", x.yard(i / 3, i % 3, 0), i);
        }
        for (int track : new int[] {-1, 3, MIN, MAX}) {
            Due.same("yard(0, " + track + ", 0)", x.yard(0, track, 0), -1);
            Due.same("on(" + track + ", 0)", x.on(track, 0), -1);
        }
        for (int track = 0; track < 3; track++) {
            Due.yes("on(" + track + ", 1)", x.on(track, 1) > 0);
            Due.yes("off(1, " + track + ")", x.off(1, track) > 0);
        }
    }

    private static void twoHundredLongEach() {
        Due.sentence("200 long each");
        TrainFerry x = new TrainFerry();
        for (int i = 0; i < 6; i++) {
            for (int j = 0; j < 10; j++) {
                Due.same("200 of 200", x.wagon(i / 3, i % 3, 20, 10, 0), 10 * i + j);
            }
            Due.same("206 of 200", x.wagon(i / 3, i % 3, 6, 10, 0), -1);
        }
    }

    private static void notAbove200Together() {
        Due.sentence("if its LENGTH and those there are not above 200 together");
        TrainFerry x = new TrainFerry();
        for (int i = 0; i < 7; i++) {
            x.wagon(0, 1, 26, 10, 0);
        }
        Due.same("201 of 200", x.wagon(0, 1, 19, 10, 0), -1);
        Due.same("200 of 200", x.wagon(0, 1, 18, 10, 0), 7);
        TrainFerry y = new TrainFerry();
        for (int i = 0; i < 32; i++) {
            y.wagon(1, 2, 6, 10, 0);
        }
        Due.same("201 of 200, of the shortest", y.wagon(1, 2, 9, 10, 0), -1);
        Due.same("200 of 200, of the shortest", y.wagon(1, 2, 8, 10, 0), 32);
        TrainFerry z = new TrainFerry();
        for (int i = 0; i < 33; i++) {
            Due.same("as many as there can be", z.wagon(1, 0, 6, 10, 0), i);
        }
        Due.same("204 of 200", z.wagon(1, 0, 6, 10, 0), -1);
        Due.same("the last of them", z.yard(1, 0, 32), 32);
    }

    private static void roomOfTheOneThatWent() {
        Due.sentence("those there (one that was drawn away is not there)");
        TrainFerry x = Ferries.open();
        for (int i = 0; i < 8; i++) {
            x.wagon(0, 0, 25, 10, 0);
        }
        Due.same("full", x.wagon(0, 0, 6, 10, 0), -1);
        x.on(0, 1);
        Due.same("201", x.wagon(0, 0, 26, 10, 0), -1);
        Due.same("200", x.wagon(0, 0, 25, 10, 0), 8);
        Due.same("full again", x.off(1, 0), -4);
        Due.same("another TRACK", x.off(1, 1), 10000);
    }

    private static void theFirstIsTheHead() {
        Due.sentence("the first one there is its head");
        TrainFerry x = Ferries.open();
        x.wagon(0, 0, 10, 10, 0);
        x.wagon(0, 0, 10, 20, 0);
        x.wagon(0, 0, 10, 30, 0);
        Due.same("yard(0, 0, 0)", x.yard(0, 0, 0), 0);
        Due.same("the first one is drawn", x.on(0, 2), 10010);
        Due.same("deck(2, 0)", x.deck(2, 0), 0);
        Due.same("then the next one is", x.yard(0, 0, 0), 1);
        Due.same("yard(0, 0, 1)", x.yard(0, 0, 1), 2);
        Due.same("yard(0, 0, 2)", x.yard(0, 0, 2), -1);
        Due.same("the next one is drawn", x.on(0, 2), 10030);
    }

    private static void comesToTheTail() {
        Due.sentence("a WAGON comes to the tail of one");
        TrainFerry x = Ferries.open();
        for (int i = 0; i < 3; i++) {
            x.wagon(0, 0, 10, 10, 0);
            Due.same("behind the others", x.yard(0, 0, i), i);
        }
        x.on(0, 1);
        x.wagon(0, 0, 10, 10, 0);
        Due.same("behind those left", x.yard(0, 0, 2), 3);
        x.off(1, 0);
        Due.same("one drawn off, too", x.yard(0, 0, 3), 0);
        x.wagon(0, 0, 10, 10, 0);
        Due.same("and one behind it", x.yard(0, 0, 4), 4);
    }

    private static void deckTracks() {
        Due.sentence("The DECK has TRACKS 0 to 3");
        TrainFerry x = Ferries.open();
        x.wagon(0, 0, 10, 10, 0);
        for (int track : new int[] {-1, 4, MIN, MAX}) {
            Due.same("on(0, " + track + ")", x.on(0, track), -1);
            Due.same("off(" + track + ", 0)", x.off(track, 0), -1);
            Due.same("deck(" + track + ", 0)", x.deck(track, 0), -1);
        }
        for (int track = 0; track < 4; track++) {
            Due.yes("on(0, " + track + ")", x.on(0, track) > 0);
            Due.same("deck(" + track + ", 0)", x.deck(track, 0), 0);
            Due.same("off(" + track + ", 0)", x.off(track, 0), 10000);
        }
    }

    private static void deckLengthAtFirst() {
        Due.sentence("of one LENGTH (100 at first)");
        for (int track = 0; track < 4; track++) {
            TrainFerry x = Ferries.open();
            for (int i = 0; i < 3; i++) {
                Ferries.load(x, track, 25, 10, 0);
            }
            x.wagon(0, 0, 26, 10, 0);
            Due.same("101 of 100 on " + track, x.on(0, track), -4);
            Due.yes("100 of 100 on " + track, Ferries.load(x, track, 25, 10, 0) > 0);
            x.wagon(0, 1, 6, 10, 0);
            Due.same("106 of 100 on " + track, x.on(1, track), -4);
        }
    }

    private static void arms() {
        Due.sentence("with ARMS -3, -1, 1, 3");
        int[] due = {9970, 9990, 10010, 10030};
        for (int track = 0; track < 4; track++) {
            TrainFerry x = Ferries.open();
            Due.same("on " + track, Ferries.load(x, track, 10, 10, 0), due[track]);
            Due.same("ferry(1)", x.ferry(1), due[track] - 10000);
            Due.same("off " + track, x.off(track, 0), 10000);
        }
    }

    private static void atMostTen() {
        Due.sentence("on each at most 10 WAGONS");
        for (int track = 0; track < 4; track++) {
            TrainFerry x = Ferries.great();
            for (int i = 0; i < 10; i++) {
                Due.yes("of ten on " + track, Ferries.load(x, track, 6, 10, 0) > 0);
            }
            x.wagon(0, 0, 6, 10, 0);
            Due.same("an eleventh on " + track, x.on(0, track), -4);
            Due.same("deck(" + track + ", 9)", x.deck(track, 9), 9);
            Due.same("deck(" + track + ", 10)", x.deck(track, 10), -1);
            x.off(track, 1);
            Due.yes("a tenth again", x.on(0, track) > 0);
            Due.same("and no eleventh", x.on(1, track), -4);
            Due.yes("but on another TRACK", x.on(1, 3 - track) > 0);
        }
    }

    private static void lengthsTogether() {
        Due.sentence("their LENGTHS together not above that");
        for (int length : new int[] {40, 41, 99, 101, 199, 200}) {
            for (int track = 0; track < 4; track++) {
                Due.yes("just " + length, lastOfSoLong(length, track, length) > 0);
                Due.same("one above " + length, lastOfSoLong(length, track, length + 1), -4);
            }
        }
    }

    /** What the draw of the last one answers, of as few WAGONS as can be, together so long. */
    private static int lastOfSoLong(int length, int track, int together) {
        TrainFerry x = Ferries.great();
        x.ship(length, 2000, 50, 1000);
        int wagons = (together + 25) / 26;
        int answer = 0;
        for (int i = 0; i < wagons; i++) {
            answer = Ferries.load(x, track, together / wagons + (i < together % wagons ? 1 : 0), 10, 0);
            Due.yes("those ahead of it", i == wagons - 1 || answer > 0);
        }
        return answer;
    }

    private static void becomesTheLast() {
        Due.sentence("A WAGON that is drawn on becomes the last one of its TRACK");
        TrainFerry x = Ferries.open();
        for (int i = 0; i < 4; i++) {
            Ferries.load(x, 2, 10, 10, 0);
            Due.same("the last", x.deck(2, i), i);
            Due.same("none behind it", x.deck(2, i + 1), -1);
        }
        Due.same("the first", x.deck(2, 0), 0);
    }

    private static void onlyTheLast() {
        Due.sentence("only the last one can be drawn off");
        TrainFerry x = Ferries.open();
        for (int i = 0; i < 3; i++) {
            Ferries.load(x, 1, 10, 10 * i + 10, 0);
        }
        for (int i = 2; i >= 0; i--) {
            Due.yes("off", x.off(1, 0) > 0);
            Due.same("the last one", x.yard(0, 0, 2 - i), i);
            Due.same("is there no more", x.deck(1, i), -1);
            Due.same("those ahead of it are", x.deck(1, i - 1), i - 1);
        }
        Due.same("no more", x.off(1, 0), -1);
    }

    private static void listIsTheSum() {
        Due.sentence("LIST: the sum of WEIGHT times ARM of all on the DECK");
        TrainFerry x = Ferries.great();
        int[] tracks = {0, 1, 2, 3, 3, 0};
        int[] weights = {11, 23, 47, 90, 10, 61};
        int[] due = {-33, -56, -9, 261, 291, 108};
        for (int i = 0; i < 6; i++) {
            Due.same("on", Ferries.load(x, tracks[i], 10, weights[i], 0), 10000 + due[i]);
            Due.same("ferry(1)", x.ferry(1), due[i]);
        }
        Due.same("without 61", x.off(0, 0), 10291);
        Due.same("without 47", x.off(2, 0), 10244);
        Due.same("ferry(1)", x.ferry(1), 244);
    }

    private static void limitAtFirstOn() {
        Due.sentence("its size may not be above the LIMIT (200 at first): on");
        for (int side = 0; side < 2; side++) {
            int outer = 3 * side;
            int inner = 1 + side;
            int sign = 2 * side - 1;
            TrainFerry x = Ferries.open();
            x.wagon(0, 0, 10, 67, 0);
            Due.same("201", x.on(0, outer), -6);
            Due.same("150", Ferries.load(x, outer, 10, 50, 0), 10000 + 150 * sign);
            x.wagon(0, 1, 10, 51, 0);
            Due.same("201", x.on(1, inner), -6);
            Due.same("200", Ferries.load(x, inner, 10, 50, 0), 10000 + 200 * sign);
        }
    }

    private static void limitAtFirstOff() {
        Due.sentence("behind any WAGON that is drawn: off");
        for (int side = 0; side < 2; side++) {
            int outer = 3 * side;
            int inner = 1 + side;
            int against = 2 - side;
            int sign = 2 * side - 1;
            TrainFerry x = Ferries.open();
            Ferries.load(x, against, 10, 11, 0);
            Due.same("190", Ferries.load(x, outer, 10, 67, 0), 10000 + 190 * sign);
            Due.same("201", x.off(against, 0), -6);
            Due.same("still there", x.deck(against, 0), 0);

            TrainFerry y = Ferries.open();
            Ferries.load(y, against, 10, 10, 0);
            Ferries.load(y, outer, 10, 50, 0);
            Due.same("190", Ferries.load(y, inner, 10, 50, 0), 10000 + 190 * sign);
            Due.same("200", y.off(against, 0), 10000 + 200 * sign);
        }
    }

    private static void leastAndGreatestLimit() {
        Due.sentence("LIMIT (0 to 2000): its least and its greatest");
        TrainFerry x = Ferries.open();
        x.ship(100, 0, 5, 100);
        x.wagon(0, 0, 10, 10, 0);
        for (int track = 0; track < 4; track++) {
            Due.same("any LIST is above 0", x.on(0, track), -6);
        }
        x.ship(100, 9, 5, 100);
        Due.same("10 is above 9", x.on(0, 1), -6);
        x.ship(100, 10, 5, 100);
        Due.same("10 is not above 10", x.on(0, 1), 9990);

        TrainFerry y = Ferries.great();
        for (int i = 0; i < 7; i++) {
            Ferries.load(y, 0, 10, 90, 0);
        }
        Due.same("1980", Ferries.load(y, 1, 10, 90, 0), 10000 - 1980);
        y.wagon(0, 0, 10, 21, 0);
        Due.same("2001", y.on(0, 1), -6);
        Due.same("2000", Ferries.load(y, 1, 10, 20, 0), 8000);
    }

    private static void sleepersOn0And3() {
        Due.sentence("a sleeper may stand on TRACKS 0 and 3 alone");
        for (int kind = 0; kind < 4; kind++) {
            for (int track = 0; track < 4; track++) {
                TrainFerry x = Ferries.open();
                boolean barred = kind == 1 && (track == 1 || track == 2);
                int answer = Ferries.load(x, track, 10, 10, kind);
                Due.same("kind " + kind + " on " + track, answer == -5 ? 1 : 0, barred ? 1 : 0);
                Due.same("ferry(5)", x.ferry(5), barred ? 0 : 1);
            }
        }
    }

    /** What the second draw answers, when the first WAGON stands already. */
    private static int second(int kind, int track, int secondKind, int secondTrack) {
        TrainFerry x = Ferries.open();
        x.wagon(0, 0, 10, 10, kind);
        x.wagon(0, 1, 10, 10, secondKind);
        Due.yes("the first stands", x.on(0, track) > 0);
        return x.on(1, secondTrack);
    }

    private static void notOnOneTrack() {
        Due.sentence("no sleeper and no danger on one TRACK");
        for (int track : new int[] {0, 3}) {
            Due.same("danger behind a sleeper on " + track, second(1, track, 2, track), -5);
            Due.same("a sleeper behind danger on " + track, second(2, track, 1, track), -5);
            Due.yes("two sleepers on " + track, second(1, track, 1, track) > 0);
            Due.yes("two of danger on " + track, second(2, track, 2, track) > 0);
            Due.yes("goods behind a sleeper on " + track, second(1, track, 0, track) > 0);
            Due.yes("an empty one behind danger on " + track, second(2, track, 3, track) > 0);
        }
    }

    private static void notNextToOneAnother() {
        Due.sentence("or on TRACKS next to one another");
        int[][] pairs = {{0, 1, -5}, {3, 2, -5}, {0, 2, 1}, {0, 3, 1}, {3, 1, 1}, {3, 0, 1}};
        for (int[] p : pairs) {
            String where = p[0] + ", " + p[1];
            Due.same("sleeper, danger: " + where, Math.min(second(1, p[0], 2, p[1]), 1), p[2]);
            Due.same("danger, sleeper: " + where, Math.min(second(2, p[1], 1, p[0]), 1), p[2]);
            Due.yes("sleeper, goods: " + where, second(1, p[0], 0, p[1]) > 0);
            Due.yes("sleeper, empty: " + where, second(1, p[0], 3, p[1]) > 0);
        }
        Due.yes("danger next to danger", second(2, 1, 2, 2) > 0);
    }

    private static void notTheLastOne() {
        Due.sentence("BARS of all that stand there, the last one or not");
        for (int other : new int[] {0, 3}) {
            TrainFerry x = Ferries.open();
            Ferries.load(x, 0, 10, 10, 1);
            Ferries.load(x, 0, 10, 10, other);
            x.wagon(0, 0, 10, 10, 2);
            Due.same("danger with a sleeper", x.on(0, 0), -5);
            Due.same("danger next to a sleeper", x.on(0, 1), -5);
            Due.same("danger apart from it", x.on(0, 2), 9950);

            TrainFerry y = Ferries.open();
            Ferries.load(y, 0, 10, 10, 2);
            Ferries.load(y, 0, 10, 10, other);
            Ferries.load(y, 2, 10, 10, 2);
            Ferries.load(y, 2, 10, 10, other);
            y.wagon(0, 0, 10, 10, 1);
            Due.same("a sleeper with danger", y.on(0, 0), -5);
            Due.same("a sleeper next to danger", y.on(0, 3), -5);
            y.off(2, 1);
            Due.same("danger is left", y.on(0, 3), -5);
            y.off(2, 1);
            Due.same("none is left", y.on(0, 3), 9970);
        }
    }

    private static void barsWhenTheyWent() {
        Due.sentence("BARS of those that stand there (one that was drawn off does not)");
        TrainFerry x = Ferries.open();
        Ferries.load(x, 0, 10, 10, 1);
        Ferries.load(x, 0, 10, 10, 1);
        x.wagon(0, 0, 10, 10, 2);
        x.off(0, 1);
        Due.same("one sleeper is left", x.on(0, 1), -5);
        x.off(0, 1);
        Due.same("none is left", x.on(0, 1), 9990);
        Due.same("and now danger is there", x.on(1, 0), -5);
        Ferries.load(x, 1, 10, 10, 2);
        x.off(1, 0);
        Due.same("and one of two, still", x.on(1, 0), -5);
        x.off(1, 0);
        Due.same("none is left", x.on(1, 0), 9970);
    }

    private static void tideOfTheLatestTick() {
        Due.sentence("TIDE of a SHORE in a TICK: as told for the latest TICK up to it");
        int[][] orders = {{0, 1, 2}, {2, 1, 0}, {1, 2, 0}, {2, 0, 1}};
        for (int[] order : orders) {
            for (int shore = 0; shore < 2; shore++) {
                TrainFerry x = new TrainFerry();
                for (int i : order) {
                    x.tide(shore, 2 + 2 * i, i == 1 ? 50 : 0);
                }
                int[] open = {0, 0, 1, 1, 0, 0, 1, 1, 1};
                for (int tick = 0; tick < open.length; tick++) {
                    Due.same("in TICK " + tick, x.isOpen(shore) ? 1 : 0, open[tick]);
                    Due.no("of the other SHORE", x.isOpen(1 - shore));
                    x.ticks(1);
                }
            }
        }
    }

    private static void tideLastTold() {
        Due.sentence("of one TICK the last told");
        TrainFerry x = new TrainFerry();
        x.tide(0, 0, 50);
        x.tide(0, 0, 0);
        Due.yes("of TICK 0", x.isOpen(0));
        x.tide(0, 0, -50);
        Due.no("of TICK 0, told again", x.isOpen(0));
        x.tide(0, 3, 0);
        x.tide(0, 5, 0);
        x.tide(0, 3, 50);
        x.tide(0, 4, 50);
        x.tide(0, 3, 0);
        x.tide(0, 4, 0);
        x.tide(0, 5, 50);
        int[] open = {0, 0, 0, 1, 1, 0, 0};
        for (int tick = 0; tick < open.length; tick++) {
            Due.same("in TICK " + tick, x.isOpen(0) ? 1 : 0, open[tick]);
            x.ticks(1);
        }
    }

    private static void tideNone() {
        Due.sentence("without one there is none");
        TrainFerry x = new TrainFerry();
        x.ship(100, 200, 50, 100);
        x.wagon(0, 0, 10, 10, 0);
        Due.no("none told", x.isOpen(0));
        x.tide(1, 0, 0);
        Due.no("of the other SHORE", x.isOpen(0));
        x.tide(0, 1, 0);
        Due.no("of a later TICK", x.isOpen(0));
        Due.same("on", x.on(0, 0), -3);
        x.ticks(1);
        Due.yes("of that TICK", x.isOpen(0));
        Due.same("on", x.on(0, 0), 9970);
    }

    private static void heightByForty() {
        Due.sentence("HEIGHT: TIDE less all WEIGHTS on the DECK by 40 (cut)");
        int[][] loads = {{10, 29, 0}, {10, 30, 1}, {39, 40, 1}, {40, 40, 2}, {59, 60, 2}, {60, 60, 3}, {90, 90, 4}};
        for (int[] load : loads) {
            TrainFerry x = Ferries.open();
            Ferries.load(x, 1, 10, load[0], 0);
            Ferries.load(x, 2, 10, load[1], 0);
            int[] tides = {load[2] + 5, load[2] + 6, load[2] - 5, load[2] - 6};
            for (int i = 0; i < tides.length; i++) {
                boolean isOpen = Ferries.isOpenAt(x, 0, tides[i]);
                Due.same(load[0] + load[1] + " at " + tides[i], isOpen ? 1 : 0, 1 - i % 2);
            }
        }
        TrainFerry y = Ferries.open();
        Ferries.load(y, 1, 10, 39, 0);
        Due.yes("39 at 5", Ferries.isOpenAt(y, 0, 5));
        Due.no("39 at 6: it is the WEIGHTS by 40 that are cut", Ferries.isOpenAt(y, 0, 6));
        Due.yes("39 at -5", Ferries.isOpenAt(y, 0, -5));
        Due.no("39 at -6", Ferries.isOpenAt(y, 0, -6));
    }

    private static void heightNegative() {
        Due.sentence("HEIGHT below 0, with a TIDE below 0 and WEIGHTS");
        TrainFerry x = Ferries.open();
        Ferries.load(x, 1, 10, 40, 0);
        Due.yes("-4 - 1", Ferries.isOpenAt(x, 0, -4));
        Due.no("-5 - 1", Ferries.isOpenAt(x, 0, -5));
        Due.yes("6 - 1", Ferries.isOpenAt(x, 0, 6));
        Due.no("7 - 1", Ferries.isOpenAt(x, 0, 7));
        x.tide(0, (int) x.count(0), 0);
        Ferries.load(x, 2, 10, 39, 0);
        Due.yes("-4 - 1", Ferries.isOpenAt(x, 0, -4));
        x.tide(0, (int) x.count(0), 0);
        Ferries.load(x, 2, 10, 10, 0);
        Due.no("-4 - 2", Ferries.isOpenAt(x, 0, -4));
        Due.yes("-3 - 2", Ferries.isOpenAt(x, 0, -3));
    }

    private static void heightElsewhere() {
        Due.sentence("(if the FERRY is at that SHORE; else 0)");
        TrainFerry x = Ferries.open();
        Ferries.load(x, 1, 10, 40, 0);
        Due.no("at the FERRY", Ferries.isOpenAt(x, 0, -5));
        Due.yes("at the other SHORE", Ferries.isOpenAt(x, 1, -5));
        Due.no("at the other SHORE", Ferries.isOpenAt(x, 1, 6));
        Due.yes("at the FERRY", Ferries.isOpenAt(x, 0, 6));
        x.sail();
        for (int shore = 0; shore < 2; shore++) {
            Due.yes("the FERRY at sea", Ferries.isOpenAt(x, shore, -5));
            Due.no("the FERRY at sea", Ferries.isOpenAt(x, shore, 6));
        }
        x.ticks(10);
        Due.yes("where it was", Ferries.isOpenAt(x, 0, -5));
        Due.no("where it is", Ferries.isOpenAt(x, 1, -5));
        Due.yes("where it is", Ferries.isOpenAt(x, 1, 6));
    }

    private static void reachAtFirst() {
        Due.sentence("HEIGHT is from -REACH to REACH (REACH 5 at first)");
        TrainFerry x = new TrainFerry();
        for (int shore = 0; shore < 2; shore++) {
            for (int tide = -50; tide <= 50; tide++) {
                if (Math.abs(tide) < 9 || Math.abs(tide) > 48) {
                    Due.same("at " + tide, Ferries.isOpenAt(x, shore, tide) ? 1 : 0, Math.abs(tide) <= 5 ? 1 : 0);
                }
            }
        }
    }

    private static void leastAndGreatestReach() {
        Due.sentence("REACH (0 to 50): its least and its greatest");
        TrainFerry x = new TrainFerry();
        x.ship(100, 200, 0, 100);
        Due.yes("0 of 0", Ferries.isOpenAt(x, 0, 0));
        Due.no("1 of 0", Ferries.isOpenAt(x, 0, 1));
        Due.no("-1 of 0", Ferries.isOpenAt(x, 0, -1));
        x.ship(100, 200, 50, 100);
        Due.yes("50 of 50", Ferries.isOpenAt(x, 0, 50));
        Due.yes("-50 of 50", Ferries.isOpenAt(x, 0, -50));
        x.ship(100, 200, 49, 100);
        Due.no("50 of 49", Ferries.isOpenAt(x, 0, 50));
        Due.no("-50 of 49", Ferries.isOpenAt(x, 0, -50));
        x.ship(100, 200, 50, 100);
        Ferries.load(x, 1, 10, 40, 0);
        Due.no("-51 of 50", x.isOpen(0));
    }

    private static void notBroken() {
        Due.sentence("and it isn't broken");
        for (int shore = 0; shore < 2; shore++) {
            TrainFerry x = Ferries.open();
            Due.yes("it is OPEN", x.isOpen(shore));
            x.ramp(shore, true);
            Due.no("it is broken", x.isOpen(shore));
            Due.yes("the other one is not", x.isOpen(1 - shore));
            Due.no("broken, whatever the TIDE", Ferries.isOpenAt(x, shore, 1));
            x.ramp(shore, false);
            Due.yes("it is mended", x.isOpen(shore));
        }
    }
}
