/** The edges of the document's Terms, ==== 2, up to who WAITS and why: a test of its own for each. */
public final class SeaEdgesTest {
    public static void main(String[] args) {
        ticksFromZero();
        atShoreZeroAtFirst();
        aDrawTakesATick();
        tideOfTheTickAtHand();
        deckAheadOfADrawOn();
        deckAheadOfADrawOff();
        seaAtFirst();
        seaNumbers();
        seaBelowFive();
        chainsAtFirst();
        chainsAreEnough();
        eachNeedsSea();
        twiceAsMany();
        ticksOfASailing();
        seaAsItSails();
        whereItCame();
        wasNotOnTheDeckYet();
        storm();
        stormFirst();
        rampNotOpen();
        rampInThatTick();
        rampOfThatShore();
        rampThenAway();
        awayThenOther();
        behindWhatIsDrawn();
        comeInATick();
        fromTheNextTickOn();
        Due.close();
    }

    private static void waited(TrainFerry x, int wagon, int storm, int ramp, int away, int other) {
        int[] due = {storm, ramp, away, other};
        for (int cause = 0; cause < 4; cause++) {
            Due.same("of(" + wagon + ", " + (3 + cause) + ")", x.of(wagon, 3 + cause), due[cause]);
        }
    }

    private static void ticksFromZero() {
        Due.sentence("TICKS from 0 on");
        TrainFerry x = new TrainFerry();
        Due.same("count(0)", x.count(0), 0);
        Due.yes("a TIDE of TICK 0", x.tide(0, 0, 0));
        Due.yes("isOpen in TICK 0", x.isOpen(0));
        Due.same("an AGREEMENT of TICK 0", x.agree(0), 0);
        Due.same("is in force in it", x.count(3), 0);
        Due.same("ticks(1)", x.ticks(1), 1);
        Due.no("TICK 0 went", x.tide(0, 0, 0));
    }

    private static void atShoreZeroAtFirst() {
        Due.sentence("The FERRY is at a SHORE (0 at first), or at sea");
        TrainFerry x = Ferries.open();
        x.wagon(1, 0, 10, 10, 0);
        Due.same("ferry(0)", x.ferry(0), 0);
        Due.same("no WAGON there", x.on(0, 0), -1);
        x.wagon(0, 0, 10, 10, 0);
        Due.same("on", x.on(0, 0), 9970);
        Due.same("deck(0, 0)", x.deck(0, 0), 1);
        x.sail();
        Due.same("at sea", x.ferry(0), 2);
        x.ticks(10);
        Due.same("at the other SHORE", x.ferry(0), 1);
        Due.same("on", x.on(0, 3), 10000);
        Due.same("deck(3, 0)", x.deck(3, 0), 0);
        x.sail();
        x.ticks(10);
        Due.same("and back", x.ferry(0), 0);
    }

    private static void aDrawTakesATick() {
        Due.sentence("To draw a WAGON on or off takes a TICK");
        TrainFerry x = Ferries.open();
        x.wagon(0, 0, 10, 10, 0);
        x.on(0, 1);
        Due.same("behind on()", x.count(0), 1);
        x.off(1, 0);
        Due.same("behind off()", x.count(0), 2);
        x.on(0, 1);
        Due.same("behind on()", x.count(0), 3);
        Due.no("the TICK of the draw went", x.tide(0, 2, 0));
        Due.yes("the one at hand", x.tide(0, 3, 0));
    }

    private static void tideOfTheTickAtHand() {
        Due.sentence("it is done in the TICK at hand");
        TrainFerry x = new TrainFerry();
        x.tide(0, 0, 50);
        x.tide(0, 1, 0);
        x.tide(0, 2, 50);
        x.tide(0, 3, 0);
        x.wagon(0, 0, 10, 10, 0);
        Due.same("on, in TICK 0", x.on(0, 1), -3);
        x.ticks(1);
        Due.same("on, in TICK 1", x.on(0, 1), 9990);
        Due.same("off, in TICK 2", x.off(1, 0), -3);
        x.tide(0, 4, 50);
        x.ticks(1);
        Due.same("off, in TICK 3", x.off(1, 0), 10000);
    }

    private static void deckAheadOfADrawOn() {
        Due.sentence("(with the DECK as it is ahead of it): on");
        TrainFerry x = new TrainFerry();
        x.tide(0, 0, 6);
        x.wagon(0, 0, 10, 40, 0);
        Due.same("HEIGHT 6 ahead of it, 5 behind it", x.on(0, 1), -3);
        x.tide(0, 0, -5);
        Due.same("HEIGHT -5 ahead of it, -6 behind it", x.on(0, 1), 9960);
        Due.no("now it is -6", x.isOpen(0));
    }

    private static void deckAheadOfADrawOff() {
        Due.sentence("(with the DECK as it is ahead of it): off");
        TrainFerry x = Ferries.open();
        x.wagon(0, 0, 10, 40, 0);
        x.on(0, 1);
        x.tide(0, 1, -5);
        Due.same("HEIGHT -6 ahead of it, -5 behind it", x.off(1, 0), -3);
        x.tide(0, 1, 6);
        Due.same("HEIGHT 5 ahead of it, 6 behind it", x.off(1, 0), 10000);
        Due.no("now it is 6", x.isOpen(0));
    }

    private static void seaAtFirst() {
        Due.sentence("SEA is 0 to 5 (0 at first)");
        TrainFerry x = Ferries.open();
        Due.same("count(5)", x.count(5), 0);
        Ferries.load(x, 0, 10, 10, 1);
        Due.same("no CHAINS are needed", x.ferry(3), 0);
        Due.same("the shortest sailing", x.sail(), 11);
    }

    private static void seaNumbers() {
        Due.sentence("SEA is 0 to 5");
        TrainFerry x = new TrainFerry();
        for (int sea : new int[] {0, 5, 1, 4}) {
            Due.yes("sea(" + sea + ")", x.sea(sea));
            Due.same("count(5)", x.count(5), sea);
        }
        for (int sea : new int[] {-1, 6, -5, Integer.MIN_VALUE, Integer.MAX_VALUE}) {
            Due.no("sea(" + sea + ")", x.sea(sea));
            Due.same("count(5)", x.count(5), 4);
        }
    }

    private static void seaBelowFive() {
        Due.sentence("SEA is below 5");
        for (int sea = 0; sea <= 5; sea++) {
            TrainFerry x = new TrainFerry();
            x.sea(sea);
            Due.same("sail() at SEA " + sea, x.sail(), sea < 5 ? 10 + 3 * sea : -2);
            Due.same("ferry(0)", x.ferry(0), sea < 5 ? 2 : 0);
        }
    }

    private static void chainsAtFirst() {
        Due.sentence("the CHAINS (100 at first) are enough");
        TrainFerry x = Ferries.open();
        x.tide(0, 0, 5);
        for (int i = 0; i < 25; i++) {
            Due.yes("on", Ferries.load(x, i % 4, 6, 10, 0) > 0);
        }
        x.wagon(0, 0, 6, 10, 0);
        x.sea(4);
        Due.same("100 are needed", x.ferry(3), 100);
        Due.yes("one more", x.on(0, 1) > 0);
        Due.same("104 are needed", x.ferry(3), 104);
        Due.same("and not enough", x.sail(), -3);
        x.off(1, 0);
        Due.same("100 are", x.sail(), 27 + 22);
    }

    private static void chainsAreEnough() {
        Due.sentence("enough: as many as there are, and not one more");
        for (int chains = 7; chains <= 9; chains++) {
            TrainFerry x = Ferries.open();
            x.ship(100, 200, 5, chains);
            Ferries.load(x, 1, 10, 10, 0);
            Ferries.load(x, 2, 10, 10, 3);
            x.sea(4);
            Due.same("8 of " + chains, x.sail(), chains < 8 ? -3 : 2 + 22);
        }
        TrainFerry y = Ferries.open();
        y.ship(100, 200, 5, 0);
        Ferries.load(y, 1, 10, 10, 0);
        y.sea(1);
        Due.same("1 of 0", y.sail(), -3);
        y.sea(0);
        Due.same("0 of 0", y.sail(), 11);
        TrainFerry z = Ferries.open();
        z.ship(100, 200, 5, 0);
        z.sea(4);
        Due.same("without WAGONS none are needed", z.sail(), 22);
    }

    private static void eachNeedsSea() {
        Due.sentence("each WAGON on the DECK needs SEA of them");
        TrainFerry x = Ferries.open();
        for (int i = 0; i < 4; i++) {
            for (int sea = 0; sea <= 5; sea++) {
                x.sea(sea);
                Due.same(i + " WAGONS at SEA " + sea, x.ferry(3), i * sea);
            }
            x.sea(0);
            Ferries.load(x, i, 10, 10, i % 2 == 0 ? 0 : 3);
        }
        x.wagon(0, 0, 10, 10, 0);
        x.off(3, 1);
        x.sea(1);
        Due.same("those in the YARD need none", x.ferry(3), 3);
    }

    private static void twiceAsMany() {
        Due.sentence("twice as many if it is a sleeper or danger");
        int[] due = {1, 2, 2, 1};
        for (int kind = 0; kind < 4; kind++) {
            for (int sea = 0; sea <= 5; sea++) {
                TrainFerry x = Ferries.open();
                Ferries.load(x, 0, 10, 10, kind);
                x.sea(sea);
                Due.same("kind " + kind + " at SEA " + sea, x.ferry(3), sea * due[kind]);
                x.off(0, 0);
                Due.same("and none when it is off", x.ferry(3), 0);
            }
        }
    }

    private static void ticksOfASailing() {
        Due.sentence("It is at the other SHORE when 10 and 3 times SEA TICKS went");
        for (int sea = 0; sea < 5; sea++) {
            TrainFerry x = new TrainFerry();
            x.ticks(3);
            x.sea(sea);
            int ticks = 10 + 3 * sea;
            Due.same("sail()", x.sail(), 3 + ticks);
            x.ticks(ticks - 1);
            Due.same("one TICK ahead", x.ferry(0), 2);
            Due.same("sail()", x.sail(), -1);
            x.ticks(1);
            Due.same("then", x.ferry(0), 1);
            Due.same("and back, at once", x.sail(), 3 + 2 * ticks);
            x.ticks(ticks);
            Due.same("then", x.ferry(0), 0);
        }
    }

    private static void seaAsItSails() {
        Due.sentence("(as it is as it sails)");
        TrainFerry x = new TrainFerry();
        x.sea(2);
        Due.same("sail()", x.sail(), 16);
        x.sea(4);
        Due.same("the SEA rises", x.ferry(4), 16);
        x.ticks(15);
        Due.same("ferry(0)", x.ferry(0), 2);
        x.sea(5);
        x.ticks(1);
        Due.same("ferry(0)", x.ferry(0), 1);
        x.sea(4);
        Due.same("sail()", x.sail(), 16 + 22);
        x.sea(0);
        x.ticks(21);
        Due.same("the SEA falls", x.ferry(0), 2);
        x.ticks(1);
        Due.same("ferry(0)", x.ferry(0), 0);
    }

    private static void whereItCame() {
        Due.sentence("each WAGON WAITS that is in the YARD of the SHORE where it came");
        TrainFerry x = Ferries.open();
        x.wagon(0, 0, 10, 10, 0);
        x.wagon(1, 0, 10, 10, 0);
        x.wagon(0, 1, 10, 10, 0);
        x.ticks(2);
        waited(x, 0, 0, 0, 0, 2);
        waited(x, 1, 0, 0, 2, 0);
        x.on(1, 1);
        x.sail();
        x.ticks(10);
        x.off(1, 1);
        x.ticks(5);
        waited(x, 0, 0, 0, 16, 3);
        waited(x, 1, 0, 0, 13, 6);
        waited(x, 2, 0, 0, 0, 2);
    }

    private static void wasNotOnTheDeckYet() {
        Due.sentence("and was not on the DECK yet");
        TrainFerry x = Ferries.open();
        x.wagon(0, 0, 10, 10, 0);
        x.wagon(0, 0, 10, 10, 0);
        x.ticks(1);
        x.on(0, 1);
        waited(x, 0, 0, 0, 0, 1);
        waited(x, 1, 0, 0, 0, 2);
        x.ticks(3);
        waited(x, 0, 0, 0, 0, 1);
        x.off(1, 0);
        waited(x, 0, 0, 0, 0, 1);
        x.ticks(3);
        waited(x, 0, 0, 0, 0, 1);
        waited(x, 1, 0, 0, 0, 9);
        x.sea(5);
        x.ticks(1);
        waited(x, 0, 0, 0, 0, 1);
        waited(x, 1, 1, 0, 0, 9);
    }

    private static void storm() {
        Due.sentence("0 storm: SEA is 5");
        TrainFerry x = Ferries.open();
        x.wagon(0, 0, 10, 10, 0);
        x.wagon(1, 0, 10, 10, 0);
        x.sea(4);
        x.ticks(1);
        waited(x, 0, 0, 0, 0, 1);
        waited(x, 1, 0, 0, 1, 0);
        x.sea(5);
        x.ticks(1);
        waited(x, 0, 1, 0, 0, 1);
        waited(x, 1, 1, 0, 1, 0);
    }

    private static void stormFirst() {
        Due.sentence("0 storm .. else 1 ramp");
        TrainFerry x = new TrainFerry();
        x.wagon(0, 0, 10, 10, 0);
        x.wagon(1, 0, 10, 10, 0);
        x.ramp(1, true);
        x.sea(5);
        x.ticks(3);
        waited(x, 0, 3, 0, 0, 0);
        waited(x, 1, 3, 0, 0, 0);
        x.sea(4);
        x.ticks(2);
        waited(x, 0, 3, 2, 0, 0);
        waited(x, 1, 3, 2, 0, 0);
    }

    private static void rampNotOpen() {
        Due.sentence("1 ramp: the RAMP is not OPEN");
        TrainFerry x = new TrainFerry();
        x.wagon(0, 0, 10, 10, 0);
        x.ticks(1);
        waited(x, 0, 0, 1, 0, 0);
        x.tide(0, 1, 5);
        x.ticks(1);
        waited(x, 0, 0, 1, 0, 1);
        x.tide(0, 2, 6);
        x.ticks(1);
        waited(x, 0, 0, 2, 0, 1);
        x.tide(0, 3, -6);
        x.ticks(1);
        waited(x, 0, 0, 3, 0, 1);
        x.tide(0, 4, -5);
        x.ticks(1);
        waited(x, 0, 0, 3, 0, 2);
        x.ramp(0, true);
        x.ticks(1);
        waited(x, 0, 0, 4, 0, 2);
    }

    private static void rampInThatTick() {
        Due.sentence("the RAMP is not OPEN in that TICK");
        TrainFerry x = new TrainFerry();
        x.wagon(0, 0, 10, 10, 0);
        x.tide(0, 3, 0);
        x.tide(0, 5, 50);
        x.ticks(3);
        waited(x, 0, 0, 3, 0, 0);
        x.ticks(2);
        waited(x, 0, 0, 3, 0, 2);
        x.ticks(1);
        waited(x, 0, 0, 4, 0, 2);
        TrainFerry y = new TrainFerry();
        y.wagon(0, 0, 10, 10, 0);
        y.tide(0, 3, 0);
        y.tide(0, 5, 50);
        y.ticks(8);
        waited(y, 0, 0, 6, 0, 2);
    }

    private static void rampOfThatShore() {
        Due.sentence("the RAMP of that SHORE");
        for (int shore = 0; shore < 2; shore++) {
            TrainFerry x = Ferries.open();
            x.wagon(0, 0, 10, 10, 0);
            x.wagon(1, 0, 10, 10, 0);
            x.ramp(shore, true);
            x.ticks(2);
            waited(x, 0, 0, 2 * (1 - shore), 0, 2 * shore);
            waited(x, 1, 0, 2 * shore, 2 * (1 - shore), 0);
        }
    }

    private static void rampThenAway() {
        Due.sentence("else 2 away: the FERRY isn't there");
        TrainFerry x = Ferries.open();
        x.wagon(0, 0, 10, 10, 0);
        x.wagon(1, 0, 10, 10, 0);
        x.sail();
        x.ticks(1);
        waited(x, 0, 0, 0, 1, 0);
        waited(x, 1, 0, 0, 1, 0);
        x.ramp(0, true);
        x.ticks(1);
        waited(x, 0, 0, 1, 1, 0);
        waited(x, 1, 0, 0, 2, 0);
        x.ticks(8);
        x.ramp(0, false);
        x.ticks(1);
        waited(x, 0, 0, 9, 2, 0);
        waited(x, 1, 0, 0, 10, 1);
    }

    private static void awayThenOther() {
        Due.sentence("else 3 other");
        TrainFerry x = Ferries.open();
        x.wagon(0, 0, 10, 10, 0);
        x.wagon(1, 0, 10, 10, 0);
        x.ticks(1);
        waited(x, 0, 0, 0, 0, 1);
        waited(x, 1, 0, 0, 1, 0);
        x.sail();
        x.ticks(11);
        waited(x, 0, 0, 0, 11, 1);
        waited(x, 1, 0, 0, 11, 1);
    }

    private static void behindWhatIsDrawn() {
        Due.sentence("As a TICK goes (with all as it is behind what is drawn in it)");
        TrainFerry x = new TrainFerry();
        x.tide(0, 0, -5);
        x.wagon(0, 0, 10, 40, 0);
        x.wagon(0, 1, 10, 10, 0);
        x.on(0, 1);
        waited(x, 0, 0, 0, 0, 0);
        waited(x, 1, 0, 1, 0, 0);
        x.tide(0, 1, 6);
        x.off(1, 0);
        waited(x, 0, 0, 0, 0, 0);
        waited(x, 1, 0, 2, 0, 0);
        x.tide(0, 2, 5);
        x.on(0, 1);
        waited(x, 1, 0, 2, 0, 1);
    }

    private static void comeInATick() {
        Due.sentence("(WAGONS that come in a TICK wait in it, too.)");
        TrainFerry x = Ferries.open();
        x.ticks(4);
        x.wagon(0, 0, 10, 10, 0);
        waited(x, 0, 0, 0, 0, 0);
        x.ticks(1);
        waited(x, 0, 0, 0, 0, 1);
        x.wagon(0, 1, 10, 10, 0);
        x.wagon(0, 2, 10, 10, 0);
        x.on(1, 0);
        waited(x, 0, 0, 0, 0, 2);
        waited(x, 1, 0, 0, 0, 0);
        waited(x, 2, 0, 0, 0, 1);
    }

    private static void fromTheNextTickOn() {
        Due.sentence("Then, if the FERRY's time is over, it is at the other SHORE from the next TICK on");
        TrainFerry x = Ferries.open();
        x.sail();
        x.ticks(9);
        x.wagon(1, 0, 10, 10, 0);
        Due.same("on", x.on(0, 0), -2);
        x.ticks(1);
        waited(x, 0, 0, 0, 1, 0);
        Due.same("ferry(0)", x.ferry(0), 1);
        Due.same("ferry(4)", x.ferry(4), -1);
        x.ticks(1);
        waited(x, 0, 0, 0, 1, 1);
        Due.same("on", x.on(0, 0), 9970);
        x.sail();
        x.ticks(200);
        Due.same("many TICKS at once", x.ferry(0), 0);
    }
}
