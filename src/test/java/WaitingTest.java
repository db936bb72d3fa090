/** Promises 7, 23 and 24: TICKS that go, what WAGONS wait by and who pays for it. */
public final class WaitingTest {
    public static void main(String[] args) {
        ticks();
        causes();
        whoWaits();
        waitsInTheTickOfADraw();
        ferryComes();
        parties();
        freeTicks();
        lastRuleHolds();
        agreementsChange();
        faultyAgreementCostsNothing();
        wrongNumbers();
        Due.close();
    }

    private static void ticks() {
        TrainFerry x = new TrainFerry();
        int[] wrong = {0, -1, 201, Integer.MIN_VALUE, Integer.MAX_VALUE};
        for (int n : wrong) {
            Due.same("ticks(" + n + ")", x.ticks(n), -1);
        }
        Due.same("ticks(1)", x.ticks(1), 1);
        Due.same("ticks(200)", x.ticks(200), 201);
        Due.same("count(0)", x.count(0), 201);
    }

    private static void waited(TrainFerry x, int wagon, int storm, int ramp, int away, int other) {
        int[] due = {storm, ramp, away, other};
        for (int cause = 0; cause < 4; cause++) {
            Due.same("of(" + wagon + ", " + (3 + cause) + ")", x.of(wagon, 3 + cause), due[cause]);
        }
    }

    private static void causes() {
        TrainFerry x = new TrainFerry();
        x.wagon(0, 0, 10, 10, 0);
        x.wagon(1, 0, 10, 10, 0);
        x.ticks(1);
        waited(x, 0, 0, 1, 0, 0);
        waited(x, 1, 0, 1, 0, 0);
        x.tide(0, 1, 0);
        x.tide(1, 1, 0);
        x.ticks(2);
        waited(x, 0, 0, 1, 0, 2);
        waited(x, 1, 0, 1, 2, 0);
        x.sea(5);
        x.ramp(0, true);
        x.ticks(3);
        waited(x, 0, 3, 1, 0, 2);
        waited(x, 1, 3, 1, 2, 0);
        x.sea(4);
        x.ticks(4);
        waited(x, 0, 3, 5, 0, 2);
        waited(x, 1, 3, 1, 6, 0);
        x.ramp(0, false);
        x.sail();
        x.ticks(1);
        waited(x, 0, 3, 5, 1, 2);
        waited(x, 1, 3, 1, 7, 0);
    }

    private static void whoWaits() {
        TrainFerry x = new TrainFerry();
        x.tide(0, 0, 0);
        x.tide(1, 0, 0);
        x.wagon(0, 0, 10, 10, 0);
        x.wagon(0, 0, 10, 10, 0);
        x.on(0, 0);
        waited(x, 0, 0, 0, 0, 0);
        waited(x, 1, 0, 0, 0, 1);
        x.off(0, 1);
        x.ticks(5);
        waited(x, 0, 0, 0, 0, 0);
        waited(x, 1, 0, 0, 0, 7);
        Due.same("where it stands", x.of(0, 0), 0);
        Due.same("its TRACK", x.of(0, 1), 1);
        x.on(0, 3);
        x.sail();
        x.ticks(10);
        x.off(3, 2);
        x.ticks(3);
        waited(x, 1, 0, 0, 0, 7);
        x.wagon(1, 0, 10, 10, 0);
        Due.same("of(2, 9)", x.of(2, 9), 1);
        Due.same("of(1, 0)", x.of(1, 0), 1);
        Due.same("of(1, 1)", x.of(1, 1), 2);
        Due.same("of(1, 9)", x.of(1, 9), 0);
    }

    private static void waitsInTheTickOfADraw() {
        TrainFerry x = new TrainFerry();
        x.tide(0, 0, -5);
        x.wagon(0, 0, 10, 40, 0);
        x.wagon(0, 1, 10, 10, 0);
        x.on(0, 1);
        waited(x, 1, 0, 1, 0, 0);
        x.tide(0, 1, 0);
        x.on(1, 2);
        waited(x, 1, 0, 1, 0, 0);
    }

    private static void ferryComes() {
        TrainFerry x = new TrainFerry();
        x.tide(1, 0, 0);
        x.sail();
        x.ticks(9);
        x.wagon(1, 0, 10, 10, 0);
        x.ticks(1);
        Due.same("it is there from the next TICK on", x.ferry(0), 1);
        waited(x, 0, 0, 0, 1, 0);
        x.ticks(1);
        waited(x, 0, 0, 0, 1, 1);
    }

    private static void parties() {
        String[] parties = {"owner", "ferry", "both"};
        int[] owners = {7, 0, 3};
        for (int i = 0; i < parties.length; i++) {
            TrainFerry x = new TrainFerry();
            x.tide(0, 0, 0);
            x.wagon(0, 0, 10, 10, 0);
            x.wagon(0, 1, 10, 10, 0);
            Due.tell(x, "rate other 7 " + parties[i] + ";rate storm 100 ferry;");
            x.agree(0);
            x.ticks(2);
            Due.same("owner of " + parties[i], x.of(1, 7), 2 * owners[i]);
            Due.same("ferry of " + parties[i], x.of(1, 8), 14 - 2 * owners[i]);
            x.on(1, 1);
            Due.same("all owners", x.count(6), 5 * owners[i]);
            Due.same("the ferry", x.count(7), 35 - 5 * owners[i]);
        }
        String[] causes = {"storm", "ramp", "away", "other"};
        for (int i = 0; i < causes.length; i++) {
            TrainFerry x = new TrainFerry();
            x.wagon(1, 0, 10, 10, 0);
            Due.tell(x, "rate " + causes[i] + " 10 owner;");
            x.agree(0);
            x.sea(5);
            x.ticks(1);
            Due.same("storm", x.of(0, 7), i == 0 ? 10 : 0);
            x.sea(0);
            x.ticks(1);
            Due.same("ramp", x.of(0, 7), i <= 1 ? 10 : 0);
            x.tide(1, 2, 0);
            x.ticks(1);
            Due.same("away", x.of(0, 7), i <= 2 ? 10 : 0);
            x.sail();
            x.ticks(10);
            x.ticks(1);
            Due.same("other", x.of(0, 7), i == 2 ? 110 : 10);
        }
    }

    private static void freeTicks() {
        TrainFerry x = new TrainFerry();
        x.wagon(0, 0, 10, 10, 0);
        Due.tell(x, "free 3;rate ramp 10 owner;rate storm 1 owner;");
        x.agree(0);
        x.ticks(1);
        x.sea(5);
        x.ticks(2);
        Due.same("three are free, whatever the CAUSE", x.of(0, 7), 0);
        x.ticks(1);
        Due.same("the fourth is not", x.of(0, 7), 1);
        x.sea(0);
        x.ticks(1);
        Due.same("nor the fifth", x.of(0, 7), 11);
        x.wagon(0, 0, 10, 10, 0);
        x.ticks(3);
        Due.same("each WAGON has its own", x.of(1, 7), 0);
        Due.same("of(0, 7)", x.of(0, 7), 41);
    }

    private static void lastRuleHolds() {
        TrainFerry x = new TrainFerry();
        x.wagon(0, 0, 10, 10, 0);
        Due.tell(x, "rate ramp 10 owner;free 100;rate ramp 4 ferry;rate storm 50 owner;free 1;");
        x.agree(0);
        x.ticks(3);
        Due.same("owner", x.of(0, 7), 0);
        Due.same("ferry", x.of(0, 8), 8);
    }

    private static void agreementsChange() {
        TrainFerry x = new TrainFerry();
        x.wagon(0, 0, 10, 10, 0);
        x.ticks(2);
        Due.same("nothing without one", x.count(6), 0);
        Due.tell(x, "rate ramp 3 owner;");
        x.agree(4);
        x.ticks(2);
        Due.same("nor by one that is not in force yet", x.count(6), 0);
        x.ticks(1);
        Due.same("but then", x.count(6), 3);
        agreementsOfOneTick();
    }

    private static void agreementsOfOneTick() {
        TrainFerry x = new TrainFerry();
        x.wagon(0, 0, 10, 10, 0);
        x.ticks(2);
        Due.tell(x, "rate ramp 9999 both;");
        x.agree(5);
        Due.tell(x, "rate ramp 1 owner;");
        x.agree(2);
        Due.tell(x, "free 3;rate ramp 10 owner;");
        x.agree(2);
        x.ticks(1);
        Due.same("TICKS without one count, too", x.of(0, 7), 0);
        x.ticks(2);
        Due.same("of the first", x.of(0, 7), 20);
        x.ticks(1);
        Due.same("of the second: owner", x.of(0, 7), 20 + 4999);
        Due.same("of the second: ferry", x.of(0, 8), 5000);
        x.agree(6);
        x.ticks(1);
        Due.same("an empty one", x.of(0, 8), 5000);
    }

    private static void faultyAgreementCostsNothing() {
        TrainFerry x = new TrainFerry();
        x.wagon(0, 0, 10, 10, 0);
        Due.tell(x, "rate ramp 10 owner;!");
        Due.same("agree", x.agree(0), -3);
        x.ticks(2);
        Due.same("of(0, 7)", x.of(0, 7), 0);
    }

    private static void wrongNumbers() {
        TrainFerry x = new TrainFerry();
        x.wagon(0, 0, 10, 10, 2);
        Due.same("of(0, 2)", x.of(0, 2), 2);
        int[][] wrong = {{-1, 0}, {1, 0}, {100, 0}, {0, -1}, {0, 10}, {Integer.MAX_VALUE, 0}, {0, Integer.MIN_VALUE}};
        for (int[] w : wrong) {
            Due.same("of(" + w[0] + ", " + w[1] + ")", x.of(w[0], w[1]), -1);
        }
        Due.same("count(-1)", x.count(-1), -1);
        Due.same("count(9)", x.count(9), -1);
        Due.same("count(MAX)", x.count(Integer.MAX_VALUE), -1);
    }
}
