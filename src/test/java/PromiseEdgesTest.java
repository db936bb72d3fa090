import java.nio.charset.StandardCharsets;
import java.util.Arrays;

/** The edges that promises 1 to 14 name: a test of its own for each sentence or part of one. */
public final class PromiseEdgesTest {
    private static final int MIN = Integer.MIN_VALUE;
    private static final int MAX = Integer.MAX_VALUE;

    public static void main(String[] args) {
        newObject();
        objectsApart();
        shipNumbers();
        shipTakesAllFour();
        shipRefusedChangesNothing();
        shipWithAWagonOnTheDeck();
        wagonAnswersItsNumber();
        wagonNone();
        wagonNoRoom();
        wagonHundredCame();
        tideTicks();
        tideValues();
        twoHundredTides();
        tideRefusedChangesNothing();
        seaIsThat();
        rampIsSoAlready();
        rampNoSuchShore();
        ticksNumbers();
        ticksAnswer();
        feedHowMany();
        feedHighestFirst();
        feedBehindTheTape();
        feedTooMuch();
        endFirstBytesAlone();
        endNone();
        agreeAnswersItsNumber();
        agreeEmptiesTheTape();
        agreeFaultKinds();
        agreeTicks();
        agreeTwentyAreThere();
        placeOfTheFault();
        placeWithout();
        placeAfterNone();
        onAnswersTheList();
        onDrawsTheHead();
        offAnswersTheList();
        offDrawsToTheTail();
        offAtTheOtherShore();
        sailAnswersTheTick();
        sailRefused();
        sailTheFirstThatHolds();
        Due.close();
    }

    private static void newObject() {
        Due.sentence("Promise 1: No WAGONS, TIDES, AGREEMENTS, an empty TAPE; TICK 0.");
        TrainFerry x = new TrainFerry();
        Due.same("all it tells", Ferries.told(x), "[0, 0, 0, -1, 0, 0, 0, 0, 0, 0, 0, 0, 0, -1, 0, "
            + "0, -1, -1, -1, 0, -1, -1, -1, -1, -1, -1, -1, -1]");
        Due.same("of(0, 0)", x.of(0, 0), -1);
        Due.same("step(0, 0)", x.step(0, 0), -1);
        Due.same("emptied(0)", x.emptied(0), -1);
        Due.same("end(1)", x.end(1), -1);
        Due.same("feed", x.feed(0, 0, 0, 0, 0), 20);
        x.ship(40, 200, 50, 100);
        Due.no("no TIDE, with any REACH", x.isOpen(0) || x.isOpen(1));
    }

    private static void objectsApart() {
        Due.sentence("Promise 1: a new object has nothing of another one");
        TrainFerry x = Ferries.open();
        Ferries.load(x, 0, 10, 40, 0);
        x.sea(3);
        x.ramp(1, true);
        x.agree(1);
        x.feed(0, 0, 0, 0, 0);
        x.loading(0, 0, 0);
        x.emptying();
        String other = Ferries.told(x);
        TrainFerry y = new TrainFerry();
        Due.same("count(1)", y.count(1), 0);
        Due.same("count(2)", y.count(2), 0);
        Due.same("count(4)", y.count(4), 0);
        Due.same("count(5)", y.count(5), 0);
        Due.no("ramp(1, false)", y.ramp(1, false));
        Ferries.load(y, 3, 10, 40, 0);
        y.ticks(3);
        Due.same("nor the other one of it", Ferries.told(x), other);
    }

    private static void shipNumbers() {
        Due.sentence("Promise 2: LENGTH (40 to 200), LIMIT (0 to 2000), REACH (0 to 50), CHAINS (0 to 1000). False: other numbers");
        TrainFerry x = new TrainFerry();
        int[][] edges = {{40, 200}, {0, 2000}, {0, 50}, {0, 1000}};
        for (int i = 0; i < 4; i++) {
            int[] s = {100, 200, 5, 100};
            int least = edges[i][0];
            int most = edges[i][1];
            for (int right : new int[] {least, least + 1, most - 1, most}) {
                s[i] = right;
                Due.yes("ship " + Arrays.toString(s), x.ship(s[0], s[1], s[2], s[3]));
            }
            for (int wrong : new int[] {least - 1, most + 1, -most, MIN, MAX}) {
                s[i] = wrong;
                Due.no("ship " + Arrays.toString(s), x.ship(s[0], s[1], s[2], s[3]));
            }
        }
    }

    private static void shipTakesAllFour() {
        Due.sentence("Promise 2: The DECK's LENGTH, LIMIT, REACH, CHAINS");
        TrainFerry x = Ferries.open();
        Due.yes("ship", x.ship(50, 60, 7, 3));
        Due.yes("REACH 7", Ferries.isOpenAt(x, 0, 7));
        Due.no("REACH 7", Ferries.isOpenAt(x, 0, 8));
        x.tide(0, 0, 0);
        x.wagon(0, 0, 10, 61, 0);
        Due.same("LIMIT 60", x.on(0, 2), -6);
        Due.same("LIMIT 60", Ferries.load(x, 2, 26, 60, 0), 10060);
        x.wagon(0, 1, 25, 10, 0);
        Due.same("LENGTH 50", x.on(1, 2), -4);
        Due.same("LENGTH 50", Ferries.load(x, 1, 24, 60, 0), 10000);
        Due.same("LENGTH 50", Ferries.load(x, 1, 26, 10, 0), 9990);
        x.sea(1);
        Due.same("CHAINS 3", x.sail(), 3 + 13);
        x.ticks(13);
        Ferries.load(x, 2, 10, 10, 0);
        Due.same("CHAINS 3", x.sail(), -3);
    }

    private static void shipRefusedChangesNothing() {
        Due.sentence("Promise 2: False: other numbers (and nothing is changed)");
        int[][] wrong = {{39, 2000, 50, 1000}, {200, 2001, 50, 1000}, {200, 2000, 51, 1000}, {200, 2000, 50, 1001}};
        for (int[] s : wrong) {
            TrainFerry x = Ferries.open();
            Due.yes("ship", x.ship(40, 60, 7, 2));
            Due.no("ship " + Arrays.toString(s), x.ship(s[0], s[1], s[2], s[3]));
            Due.no("REACH 7", Ferries.isOpenAt(x, 0, 8));
            x.tide(0, 0, 0);
            x.wagon(0, 0, 10, 61, 0);
            x.wagon(0, 1, 15, 10, 0);
            Due.same("LIMIT 60", x.on(0, 1), -6);
            Due.same("on", Ferries.load(x, 2, 26, 10, 0), 10010);
            Due.same("LENGTH 40", x.on(1, 2), -4);
            x.sea(3);
            Due.same("CHAINS 2", x.sail(), -3);
        }
    }

    private static void shipWithAWagonOnTheDeck() {
        Due.sentence("Promise 2: False: .. there is a WAGON on the DECK");
        for (int track = 0; track < 4; track++) {
            TrainFerry x = Ferries.open();
            x.wagon(0, 0, 20, 50, 0);
            Due.yes("one in the YARD", x.ship(100, 200, 5, 100));
            x.on(0, track);
            Due.no("one on the DECK", x.ship(100, 200, 5, 100));
            Due.no("one on the DECK", x.ship(40, 2000, 50, 0));
            x.sea(1);
            Due.same("and nothing is changed", x.sail(), 1 + 13);
            Due.no("one on the DECK at sea", x.ship(100, 200, 5, 100));
            x.ticks(13);
            Due.no("one on the DECK there", x.ship(100, 200, 5, 100));
            x.off(track, 0);
            Due.yes("the last one went", x.ship(100, 200, 5, 0));
            x.sail();
            Due.yes("an empty DECK at sea", x.ship(100, 200, 5, 0));
        }
    }

    private static void wagonAnswersItsNumber() {
        Due.sentence("Promise 3: A WAGON comes to a TRACK of a SHORE's YARD: its number");
        TrainFerry x = new TrainFerry();
        for (int i = 0; i < 6; i++) {
            Due.same("wagon", x.wagon(i / 3, i % 3, 10, 10, i % 4), i);
            Due.same("yard", x.yard(i / 3, i % 3, 0), i);
            Due.same("its SHORE", x.of(i, 0), i / 3);
            Due.same("its TRACK", x.of(i, 1), i % 3);
            Due.same("its KIND", x.of(i, 2), i % 4);
            Due.same("where it came", x.of(i, 9), i / 3);
            Due.same("count(1)", x.count(1), i + 1);
        }
        x.sail();
        Due.same("while the FERRY is at sea", x.wagon(0, 0, 10, 10, 0), 6);
    }

    private static void wagonNone() {
        Due.sentence("Promise 3: NONE: no such ones, other numbers");
        TrainFerry x = new TrainFerry();
        String ahead = Ferries.told(x);
        int[][] wrong = {{-1, 0, 10, 10, 0}, {2, 0, 10, 10, 0}, {0, -1, 10, 10, 0}, {0, 3, 10, 10, 0}, {1, 3, 10, 10, 0},
            {0, 0, 5, 10, 0}, {0, 0, 27, 10, 0}, {0, 0, 10, 9, 0}, {0, 0, 10, 91, 0}, {0, 0, 10, 10, -1},
            {0, 0, 10, 10, 4}, {MIN, 0, 10, 10, 0}, {0, MAX, 10, 10, 0}, {0, 0, MIN, 10, 0}, {0, 0, 10, MAX, 0}};
        for (int[] w : wrong) {
            Due.same("wagon " + Arrays.toString(w), x.wagon(w[0], w[1], w[2], w[3], w[4]), -1);
        }
        Due.same("and nothing is changed", Ferries.told(x), ahead);
    }

    private static void wagonNoRoom() {
        Due.sentence("Promise 3: NONE: .. no room");
        TrainFerry x = new TrainFerry();
        for (int i = 0; i < 8; i++) {
            x.wagon(0, 0, 24, 10, 0);
        }
        Due.same("192 and 9", x.wagon(0, 0, 9, 10, 0), -1);
        Due.same("count(1)", x.count(1), 8);
        Due.same("yard(0, 0, 8)", x.yard(0, 0, 8), -1);
        Due.same("192 and 8", x.wagon(0, 0, 8, 10, 0), 8);
        Due.same("200 and 6", x.wagon(0, 0, 6, 10, 0), -1);
        Due.same("the TRACK beside it", x.wagon(0, 1, 26, 10, 0), 9);
        Due.same("that of the other SHORE", x.wagon(1, 0, 26, 10, 0), 10);
    }

    private static void wagonHundredCame() {
        Due.sentence("Promise 3: NONE: .. 100 came");
        TrainFerry x = Ferries.open();
        for (int i = 0; i < 100; i++) {
            Due.same("of a hundred", x.wagon(i / 60, i / 20 % 3, 10, 10, 0), i);
        }
        Due.same("one more", x.wagon(1, 2, 10, 10, 0), -1);
        Due.same("yard(1, 2, 0)", x.yard(1, 2, 0), -1);
        x.on(0, 0);
        Due.same("one on the DECK came, too", x.wagon(1, 2, 10, 10, 0), -1);
        Due.same("count(1)", x.count(1), 100);
    }

    private static void tideTicks() {
        Due.sentence("Promise 4: from a TICK on (the one at hand or later, to 5000)");
        TrainFerry x = new TrainFerry();
        Due.yes("TICK 0", x.tide(0, 0, 0));
        Due.no("TICK -1", x.tide(0, -1, 0));
        x.ticks(10);
        Due.no("one that went", x.tide(0, 9, 0));
        Due.yes("the one at hand", x.tide(0, 10, 0));
        Due.yes("the next", x.tide(0, 11, 0));
        Due.yes("5000", x.tide(0, 5000, 0));
        Due.no("5001", x.tide(0, 5001, 0));
        Due.no("MAX", x.tide(0, MAX, 0));
        Due.no("MIN", x.tide(0, MIN, 0));
        for (int i = 0; i < 24; i++) {
            x.ticks(200);
        }
        Due.same("the TICK at hand", x.ticks(190), 5000);
        Due.no("4999 went", x.tide(1, 4999, 0));
        Due.yes("5000 is at hand", x.tide(1, 5000, 0));
        Due.yes("and it is the TIDE", x.isOpen(1));
        x.ticks(1);
        Due.no("5000 went", x.tide(1, 5000, 0));
        Due.no("5001 is above", x.tide(1, 5001, 0));
        Due.yes("that of 5000 is in force", x.isOpen(1));
    }

    private static void tideValues() {
        Due.sentence("Promise 4: -50 to 50");
        TrainFerry x = new TrainFerry();
        x.ship(100, 200, 50, 100);
        for (int v : new int[] {-50, -49, 0, 49, 50}) {
            Due.yes("tide of " + v, x.tide(0, 0, v));
            Due.yes("isOpen", x.isOpen(0));
        }
        for (int v : new int[] {-51, 51, MIN, MAX}) {
            Due.no("tide of " + v, x.tide(1, 0, v));
            Due.no("isOpen", x.isOpen(1));
        }
    }

    private static void twoHundredTides() {
        Due.sentence("Promise 4: False: .. 200 are there");
        for (int shore = 0; shore < 2; shore++) {
            TrainFerry x = new TrainFerry();
            for (int i = 0; i < 199; i++) {
                Due.yes("of 200", x.tide(shore, i, 50));
            }
            Due.no("a refused one is none of them", x.tide(shore, 0, 51));
            Due.yes("the 200th", x.tide(1 - shore, 199, 0));
            Due.no("a 201st", x.tide(shore, 199, 0));
            Due.no("a 201st, of the other SHORE", x.tide(1 - shore, 199, 50));
            Due.no("a 201st, of a TICK that has one", x.tide(shore, 0, 0));
            x.ticks(199);
            Due.no("none goes with its TICK", x.tide(shore, 199, 0));
            Due.no("isOpen", x.isOpen(shore));
            Due.yes("isOpen", x.isOpen(1 - shore));
        }
    }

    private static void tideRefusedChangesNothing() {
        Due.sentence("Promise 4: False (and nothing is changed)");
        TrainFerry x = new TrainFerry();
        x.ticks(5);
        x.tide(0, 5, 0);
        x.tide(0, 4, 50);
        x.tide(0, 5, 51);
        x.tide(2, 5, 50);
        x.tide(-1, 5, 50);
        Due.yes("isOpen(0)", x.isOpen(0));
        Due.no("isOpen(1)", x.isOpen(1));
        x.ticks(1);
        Due.yes("isOpen(0)", x.isOpen(0));
    }

    private static void seaIsThat() {
        Due.sentence("Promise 5: SEA is that. False: not 0 to 5.");
        TrainFerry x = new TrainFerry();
        for (int v = 0; v <= 5; v++) {
            Due.yes("sea(" + v + ")", x.sea(v));
            Due.same("count(5)", x.count(5), v);
            Due.yes("that again", x.sea(v));
            for (int wrong : new int[] {-1, 6, MIN, MAX}) {
                Due.no("sea(" + wrong + ")", x.sea(wrong));
            }
            Due.same("count(5)", x.count(5), v);
        }
        x.sea(0);
        x.sail();
        Due.yes("with the FERRY at sea, too", x.sea(5));
        Due.same("count(5)", x.count(5), 5);
    }

    private static void rampIsSoAlready() {
        Due.sentence("Promise 6: The RAMP of a SHORE is broken, or not. False: .. it is so already.");
        for (int shore = 0; shore < 2; shore++) {
            TrainFerry x = Ferries.open();
            Due.no("not broken at first", x.ramp(shore, false));
            Due.yes("isOpen", x.isOpen(shore));
            Due.yes("it breaks", x.ramp(shore, true));
            Due.no("broken already", x.ramp(shore, true));
            Due.no("isOpen", x.isOpen(shore));
            Due.no("the other one is not", x.ramp(1 - shore, false));
            Due.yes("it is mended", x.ramp(shore, false));
            Due.no("mended already", x.ramp(shore, false));
            Due.yes("isOpen", x.isOpen(shore));
        }
    }

    private static void rampNoSuchShore() {
        Due.sentence("Promise 6: False: no such SHORE");
        TrainFerry x = Ferries.open();
        for (int shore : new int[] {-1, 2, MIN, MAX}) {
            Due.no("ramp(" + shore + ", true)", x.ramp(shore, true));
            Due.no("ramp(" + shore + ", false)", x.ramp(shore, false));
        }
        Due.yes("isOpen(0)", x.isOpen(0));
        Due.yes("isOpen(1)", x.isOpen(1));
    }

    private static void ticksNumbers() {
        Due.sentence("Promise 7: So many TICKS (1 to 200) go. NONE: another n.");
        TrainFerry x = new TrainFerry();
        x.wagon(0, 0, 10, 10, 0);
        String ahead = Ferries.told(x);
        for (int n : new int[] {0, 201, -1, -200, MIN, MAX}) {
            Due.same("ticks(" + n + ")", x.ticks(n), -1);
        }
        Due.same("and none goes", Ferries.told(x), ahead);
        Due.same("ticks(1)", x.ticks(1), 1);
        Due.same("of(0, 4)", x.of(0, 4), 1);
        Due.same("ticks(200)", x.ticks(200), 201);
        Due.same("of(0, 4)", x.of(0, 4), 201);
        Due.same("ticks(199)", x.ticks(199), 400);
    }

    private static void ticksAnswer() {
        Due.sentence("Promise 7: the TICK at hand");
        TrainFerry x = Ferries.open();
        Due.same("ticks(2)", x.ticks(2), 2);
        Ferries.load(x, 0, 10, 10, 0);
        Due.same("ticks(3), behind a draw", x.ticks(3), 6);
        x.sail();
        Due.same("ticks(50), beyond a sailing", x.ticks(50), 56);
        Due.same("count(0)", x.count(0), 56);
        for (int i = 0; i < 30; i++) {
            x.ticks(200);
        }
        Due.same("beyond 5000, too", x.ticks(1), 6057);
    }

    private static void feedHowMany() {
        Due.sentence("Promise 8: how many it has");
        TrainFerry x = new TrainFerry();
        Due.same("feed", x.feed(0, 0, 0, 0, 0), 20);
        Due.same("feed", x.feed(-1, -1, -1, -1, -1), 40);
        x.end(7);
        Due.same("feed", x.feed(MIN, MAX, 0, 1, 2), 27);
        x.end(0);
        Due.same("feed", x.feed(0, 0, 0, 0, 0), 20);
        Due.same("count(4)", x.count(4), 20);
    }

    private static void feedHighestFirst() {
        Due.sentence("Promise 8: Twenty bytes .. of each number the highest first");
        TrainFerry x = new TrainFerry();
        x.feed(0x72617465, 0x2072616d, 0x70203132, 0x3334206f, 0x776e6572);
        x.feed(0x3b202020, 0x20202020, 0x20202020, 0x20202020, 0x20202020);
        Due.same("rate ramp 1234 owner;", x.agree(0), 0);
        x.wagon(0, 0, 10, 10, 0);
        x.ticks(1);
        Due.same("of(0, 7)", x.of(0, 7), 1234);
        for (int at = 0; at < 20; at++) {
            for (int wrong : new int[] {0x7f, 0x80, 0xff}) {
                int[] numbers = {0x20202020, 0x20202020, 0x20202020, 0x20202020, 0x20202020};
                int shift = 24 - 8 * (at % 4);
                numbers[at / 4] = numbers[at / 4] & ~(0xff << shift) | wrong << shift;
                TrainFerry y = new TrainFerry();
                y.feed(numbers[0], numbers[1], numbers[2], numbers[3], numbers[4]);
                Due.same("byte " + wrong, y.agree(0), -3);
                Due.same("its place", y.place(), at);
            }
        }
    }

    private static void feedBehindTheTape() {
        Due.sentence("Promise 8: bytes come behind the TAPE");
        TrainFerry x = new TrainFerry();
        byte[] text = "free 3; rate ramp 50".getBytes(StandardCharsets.US_ASCII);
        Due.tell(x, text);
        Due.same("count(4)", x.count(4), 20);
        Due.tell(x, "00 owner;");
        Due.same("agree", x.agree(0), 0);
        x.wagon(0, 0, 10, 10, 0);
        x.ticks(4);
        Due.same("rate 5000 behind free 3", x.of(0, 7), 5000);
    }

    private static void feedTooMuch() {
        Due.sentence("Promise 8: NONE if these would be more than 300");
        TrainFerry x = new TrainFerry();
        Due.tell(x, " ".repeat(280));
        Due.same("300", x.feed(0x66726565, 0x20313b20, 0x20202020, 0x20202020, 0x20202020), 300);
        Due.same("320", x.feed(0, 0, 0, 0, 0), -1);
        Due.same("count(4)", x.count(4), 300);
        Due.same("the bytes stay", x.agree(0), 0);
        Due.tell(x, " ".repeat(281));
        Due.same("301", x.feed(0, 0, 0, 0, 0), -1);
        Due.same("count(4)", x.count(4), 281);
        x.end(280);
        Due.same("300", x.feed(0x20202020, 0x20202020, 0x20202020, 0x20202020, 0x20202020), 300);
        Due.same("blanks alone", x.agree(0), 1);
    }

    private static void endFirstBytesAlone() {
        Due.sentence("Promise 9: The TAPE has its first n bytes alone: n");
        TrainFerry x = new TrainFerry();
        Due.tell(x, "free 1;#############");
        Due.same("all of them", x.end(20), 20);
        Due.same("the first of them", x.end(7), 7);
        Due.same("count(4)", x.count(4), 7);
        Due.same("agree", x.agree(0), 0);
        Due.tell(x, "free 1;#");
        x.end(6);
        Due.same("agree", x.agree(0), -3);
        Due.same("it ends there", x.place(), 6);
        Due.tell(x, "###");
        Due.same("none of them", x.end(0), 0);
        Due.same("count(4)", x.count(4), 0);
        Due.same("agree", x.agree(0), 1);
    }

    private static void endNone() {
        Due.sentence("Promise 9: NONE if it has less, or n is below 0");
        TrainFerry x = new TrainFerry();
        Due.same("end(0) of 0", x.end(0), 0);
        Due.same("end(1) of 0", x.end(1), -1);
        Due.same("end(-1) of 0", x.end(-1), -1);
        Due.tell(x, "free 1;");
        for (int n : new int[] {8, 20, 300, -1, -7, MIN, MAX}) {
            Due.same("end(" + n + ") of 7", x.end(n), -1);
            Due.same("count(4)", x.count(4), 7);
        }
        Due.same("end(7) of 7", x.end(7), 7);
        Due.same("agree", x.agree(0), 0);
        Due.same("end(7) of 0: bytes that were there are none", x.end(7), -1);
    }

    private static void agreeAnswersItsNumber() {
        Due.sentence("Promise 10: is an AGREEMENT from a TICK on: its number");
        TrainFerry x = new TrainFerry();
        Due.same("first", x.agree(3), 0);
        Due.tell(x, "#");
        Due.same("one with a FAULT has none", x.agree(0), -3);
        Due.same("one of another TICK has none", x.agree(-1), -1);
        Due.same("second", x.agree(1), 1);
        Due.same("third", x.agree(1), 2);
        Due.same("count(2)", x.count(2), 3);
    }

    private static void agreeEmptiesTheTape() {
        Due.sentence("Promise 10: The TAPE (empty then)");
        TrainFerry x = new TrainFerry();
        x.wagon(0, 0, 10, 10, 0);
        Due.tell(x, "rate ramp 5 owner;");
        Due.same("agree", x.agree(0), 0);
        Due.same("count(4)", x.count(4), 0);
        Due.same("end(1)", x.end(1), -1);
        Due.same("the next one begins anew", x.agree(1), 1);
        x.ticks(2);
        Due.same("of(0, 7)", x.of(0, 7), 5);
        Due.tell(x, "rate ramp#");
        Due.same("with a FAULT", x.agree(2), -3);
        Due.same("count(4)", x.count(4), 0);
    }

    private static void agreeFaultKinds() {
        Due.sentence("Promise 10: with a FAULT 2 less than minus its kind (-3, -4)");
        TrainFerry x = new TrainFerry();
        Due.tell(x, "free x;");
        Due.same("kind 1", x.agree(0), -3);
        Due.tell(x, "free 1;".repeat(21));
        Due.same("kind 2", x.agree(0), -4);
        Due.same("count(2)", x.count(2), 0);
        Due.same("count(3)", x.count(3), -1);
    }

    private static void agreeTicks() {
        Due.sentence("Promise 10: (the one at hand or later, to 5000) .. NONE: another TICK (the TAPE stays)");
        TrainFerry x = new TrainFerry();
        Due.same("agree(-1)", x.agree(-1), -1);
        Due.same("agree(0)", x.agree(0), 0);
        x.ticks(10);
        Due.tell(x, "free x;");
        for (int tick : new int[] {9, 5001, 0, -1, MIN, MAX}) {
            Due.same("agree(" + tick + ")", x.agree(tick), -1);
            Due.same("count(4)", x.count(4), 7);
        }
        Due.same("its FAULT is told when it is read", x.agree(5000), -3);
        Due.same("the one at hand", x.agree(10), 1);
        Due.same("the next", x.agree(11), 2);
        Due.same("the last", x.agree(5000), 3);
        for (int i = 0; i < 24; i++) {
            x.ticks(200);
        }
        Due.same("one ahead of 5000", x.ticks(189), 4999);
        Due.same("count(3)", x.count(3), 2);
        x.ticks(1);
        Due.same("count(3)", x.count(3), 3);
        Due.same("5000 is at hand", x.agree(5000), 4);
        Due.same("count(3)", x.count(3), 4);
        x.ticks(1);
        Due.same("5000 went", x.agree(5000), -1);
        Due.same("5001 is above", x.agree(5001), -1);
    }

    private static void agreeTwentyAreThere() {
        Due.sentence("Promise 10: NONE: .. 20 are there (the TAPE stays)");
        TrainFerry x = new TrainFerry();
        for (int i = 0; i < 19; i++) {
            x.agree(0);
        }
        Due.tell(x, "#");
        Due.same("a FAULT is none of them", x.agree(0), -3);
        Due.same("the 20th", x.agree(0), 19);
        Due.tell(x, "free 1;");
        Due.same("a 21st", x.agree(0), -1);
        Due.same("count(4)", x.count(4), 7);
        Due.tell(x, "#");
        Due.same("a 21st, even with a FAULT", x.agree(0), -1);
        Due.same("count(4)", x.count(4), 8);
        Due.same("count(2)", x.count(2), 20);
        Due.same("count(3)", x.count(3), 19);
        Due.same("place()", x.place(), -1);
    }

    private static void placeOfTheFault() {
        Due.sentence("Promise 11: The place of the FAULT of the latest agree()");
        TrainFerry x = new TrainFerry();
        Due.tell(x, "free x;");
        x.agree(0);
        Due.same("place()", x.place(), 5);
        Due.same("and again", x.place(), 5);
        Due.tell(x, "#");
        x.agree(0);
        Due.same("at 0", x.place(), 0);
        Due.tell(x, "free 1;".repeat(42) + "free 1");
        x.agree(0);
        Due.same("kind 2", x.place(), 140);
        Due.tell(x, "rate" + " ".repeat(296));
        x.agree(0);
        Due.same("at 300", x.place(), 300);
        x.ticks(1);
        Due.tell(x, "free 1;");
        Due.same("not of the TAPE at hand", x.place(), 300);
    }

    private static void placeWithout() {
        Due.sentence("Promise 11: NONE without");
        TrainFerry x = new TrainFerry();
        Due.same("no agree() yet", x.place(), -1);
        x.agree(0);
        Due.same("no FAULT", x.place(), -1);
        Due.tell(x, "#");
        x.agree(0);
        Due.same("a FAULT", x.place(), 0);
        x.agree(0);
        Due.same("the latest has none", x.place(), -1);
    }

    private static void placeAfterNone() {
        Due.sentence("Promise 11: the latest agree() that was not NONE");
        TrainFerry x = new TrainFerry();
        x.agree(-1);
        Due.same("NONE alone", x.place(), -1);
        Due.tell(x, " #");
        x.agree(0);
        Due.tell(x, "free x");
        x.agree(-1);
        Due.same("NONE leaves it", x.place(), 1);
        x.agree(5001);
        Due.same("NONE leaves it", x.place(), 1);
        x.agree(0);
        Due.same("that FAULT now", x.place(), 5);
        x.agree(0);
        x.agree(-1);
        Due.same("NONE leaves none", x.place(), -1);
    }

    private static void onAnswersTheList() {
        Due.sentence("Promise 12: the LIST then, and 10000 more");
        TrainFerry x = Ferries.great();
        int list = 0;
        for (int i = 0; i < 7; i++) {
            list -= 270;
            Due.same("on", Ferries.load(x, 0, 6, 90, 0), 10000 + list);
        }
        Due.same("-2000 is the least", Ferries.load(x, 1, 6, 90, 0) + Ferries.load(x, 1, 6, 20, 0), 8020 + 8000);
        TrainFerry y = Ferries.great();
        for (int i = 0; i < 7; i++) {
            Ferries.load(y, 3, 6, 90, 0);
        }
        Due.same("2000 is the most", Ferries.load(y, 2, 6, 90, 0) + Ferries.load(y, 2, 6, 20, 0), 11980 + 12000);
        TrainFerry z = Ferries.open();
        Due.same("-10", Ferries.load(z, 1, 6, 10, 0), 9990);
        Due.same("0", Ferries.load(z, 2, 6, 10, 0), 10000);
    }

    private static void onDrawsTheHead() {
        Due.sentence("Promise 12: The head of a TRACK of the YARD is drawn to a TRACK of the DECK");
        TrainFerry x = Ferries.open();
        for (int i = 0; i < 6; i++) {
            x.wagon(0, i % 3, 10, 10, 0);
        }
        for (int track = 0; track < 3; track++) {
            x.on(track, 3 - track);
            Due.same("deck", x.deck(3 - track, 0), track);
            Due.same("yard", x.yard(0, track, 0), track + 3);
            Due.same("yard", x.yard(0, track, 1), -1);
            Due.same("where it is", x.of(track, 0), 2);
            Due.same("its TRACK", x.of(track, 1), 3 - track);
        }
        Due.same("ferry(5)", x.ferry(5), 3);
    }

    private static void offAnswersTheList() {
        Due.sentence("Promise 13: likewise (the LIST then, and 10000 more)");
        TrainFerry x = Ferries.open();
        Ferries.load(x, 0, 10, 40, 0);
        Ferries.load(x, 3, 10, 50, 0);
        Ferries.load(x, 1, 10, 60, 0);
        Due.same("LIST", x.ferry(1), -30);
        Due.same("off 1", x.off(1, 0), 10030);
        Due.same("off 3", x.off(3, 0), 9880);
        Due.same("off 0", x.off(0, 0), 10000);
        Due.same("ferry(1)", x.ferry(1), 0);
        Due.same("ferry(2)", x.ferry(2), 0);
    }

    private static void offDrawsToTheTail() {
        Due.sentence("Promise 13: The last one of a TRACK of the DECK is drawn to the tail of a TRACK of the YARD");
        TrainFerry x = Ferries.open();
        for (int i = 0; i < 3; i++) {
            Ferries.load(x, 1, 10, 10, 0);
        }
        for (int track : new int[] {1, 2, 2}) {
            x.wagon(0, track, 10, 10, 0);
        }
        for (int track = 0; track < 3; track++) {
            int last = 2 - track;
            Due.yes("off", x.off(1, track) > 0);
            Due.same("the tail", x.yard(0, track, track), last);
            Due.same("none behind it", x.yard(0, track, track + 1), -1);
            Due.same("the DECK has it no more", x.deck(1, last), -1);
            Due.same("where it is", x.of(last, 0), 0);
            Due.same("its TRACK", x.of(last, 1), track);
        }
    }

    private static void offAtTheOtherShore() {
        Due.sentence("Promise 13: the YARD where the FERRY is");
        TrainFerry x = Ferries.open();
        Ferries.load(x, 1, 10, 10, 0);
        x.wagon(0, 0, 10, 10, 0);
        x.wagon(1, 0, 10, 10, 0);
        x.sail();
        x.ticks(10);
        Due.same("off", x.off(1, 0), 10000);
        Due.same("yard(1, 0, 1)", x.yard(1, 0, 1), 0);
        Due.same("yard(0, 0, 1)", x.yard(0, 0, 1), -1);
        Due.same("where it is", x.of(0, 0), 1);
        Due.same("where it came", x.of(0, 9), 0);
    }

    private static void sailAnswersTheTick() {
        Due.sentence("Promise 14: The FERRY sails: the TICK in which it will be there");
        for (int sea = 0; sea < 5; sea++) {
            TrainFerry x = new TrainFerry();
            x.ticks(7);
            x.sea(sea);
            int there = x.sail();
            Due.same("sail()", there, 17 + 3 * sea);
            Due.same("no TICK goes", x.count(0), 7);
            Due.same("ferry(0)", x.ferry(0), 2);
            Due.same("ferry(4)", x.ferry(4), there);
            x.ticks(there - 8);
            Due.same("ahead of it", x.ferry(0), 2);
            Due.same("in it", x.ticks(1), there);
            Due.same("ferry(0)", x.ferry(0), 1);
        }
    }

    private static void sailRefused() {
        Due.sentence("Promise 14: -1 it is at sea; -2 SEA is 5; -3 the CHAINS are not enough");
        TrainFerry x = Ferries.open();
        x.ship(100, 200, 5, 3);
        Ferries.load(x, 0, 10, 10, 1);
        x.sea(5);
        String ahead = Ferries.told(x);
        Due.same("SEA is 5", x.sail(), -2);
        Due.same("nothing is changed", Ferries.told(x), ahead);
        x.sea(2);
        ahead = Ferries.told(x);
        Due.same("4 of 3 CHAINS", x.sail(), -3);
        Due.same("nothing is changed", Ferries.told(x), ahead);
        x.sea(1);
        Due.same("2 of 3 CHAINS", x.sail(), 1 + 13);
        x.ticks(5);
        ahead = Ferries.told(x);
        Due.same("at sea", x.sail(), -1);
        Due.same("nothing is changed", Ferries.told(x), ahead);
    }

    private static void sailTheFirstThatHolds() {
        Due.sentence("Promise 14: -1, -2, -3, the first that holds");
        TrainFerry x = Ferries.open();
        x.ship(100, 200, 5, 0);
        Ferries.load(x, 0, 10, 10, 1);
        x.sea(5);
        Due.same("a storm, and no CHAINS", x.sail(), -2);
        x.sea(4);
        Due.same("no CHAINS", x.sail(), -3);
        x.sea(0);
        x.sail();
        x.sea(5);
        Due.same("at sea, a storm, and no CHAINS", x.sail(), -1);
        x.sea(4);
        Due.same("at sea, and no CHAINS", x.sail(), -1);
    }
}
