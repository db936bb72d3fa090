/** The edges of the document's Terms, ==== 2, on AGREEMENTS and what waiting costs: a test of its own for each. */
public final class TextEdgesTest {
    private static final String[] CAUSES = {"storm", "ramp", "away", "other"};
    private static final String[] PARTIES = {"owner", "ferry", "both"};
    private static final String TWENTY = "free 1;".repeat(20);

    public static void main(String[] args) {
        twentyAgreements();
        inForceOfTheLatest();
        inForceLastTold();
        threeHundredBytes();
        noRuleAtAll();
        ruleFree();
        ruleRate();
        causeWords();
        partyWords();
        lastFreeHolds();
        lastRateHolds();
        withoutARule();
        blanks();
        noOtherBlanks();
        words();
        eachLetterOfAWord();
        lettersOfWords();
        numbers();
        digitsOfNumbers();
        sign();
        wrongToken();
        longerNumber();
        theEnd();
        aRuleTooMany();
        ifItMayStandThere();
        theFirstFromTheLeft();
        byTheOneInForce();
        moreThanFree();
        waitedByAnyCause();
        rateOfItsCause();
        halves();
        withoutAnAgreement();
        Due.close();
    }

    private static TrainFerry agreed(String text) {
        TrainFerry x = new TrainFerry();
        Due.tell(x, text);
        Due.same("agree: " + text, x.agree(0), 0);
        return x;
    }

    private static void right(String text) {
        TrainFerry x = agreed(text);
        Due.same("place: " + text, x.place(), -1);
        Due.same("count(2): " + text, x.count(2), 1);
    }

    private static void fault(String text, int kind, int place) {
        TrainFerry x = new TrainFerry();
        Due.tell(x, text);
        Due.same("agree: " + text, x.agree(0), -2 - kind);
        Due.same("place: " + text, x.place(), place);
        Due.same("count(2): " + text, x.count(2), 0);
    }

    /** What owner and ferry pay for a WAGON that waits so many TICKS by the RAMP. */
    private static void costs(String text, int ticks, int owner, int ferry) {
        TrainFerry x = agreed(text);
        x.wagon(0, 0, 10, 10, 0);
        x.ticks(ticks);
        Due.same("owner: " + text, x.of(0, 7), owner);
        Due.same("ferry: " + text, x.of(0, 8), ferry);
    }

    private static void twentyAgreements() {
        Due.sentence("AGREEMENTS, at most 20");
        TrainFerry x = new TrainFerry();
        for (int i = 0; i < 20; i++) {
            Due.same("of twenty", x.agree(i % 2), i);
        }
        Due.same("a 21st", x.agree(0), -1);
        Due.same("a 21st, of a later TICK", x.agree(5000), -1);
        Due.same("count(2)", x.count(2), 20);
        x.ticks(1);
        Due.same("the last one is in force", x.count(3), 19);
    }

    private static void inForceOfTheLatest() {
        Due.sentence("in force in a TICK is that of the latest TICK up to it");
        int[][] orders = {{0, 1, 2}, {2, 1, 0}, {1, 2, 0}};
        for (int[] order : orders) {
            TrainFerry x = new TrainFerry();
            int[] numbers = new int[3];
            for (int i : order) {
                numbers[i] = x.agree(1 + 2 * i);
            }
            int[] due = {-1, numbers[0], numbers[0], numbers[1], numbers[1], numbers[2], numbers[2]};
            for (int tick = 0; tick < due.length; tick++) {
                Due.same("in TICK " + tick, x.count(3), due[tick]);
                x.ticks(1);
            }
        }
    }

    private static void inForceLastTold() {
        Due.sentence("of one TICK the last told (AGREEMENTS)");
        TrainFerry x = new TrainFerry();
        x.wagon(0, 0, 10, 10, 0);
        Due.tell(x, "rate ramp 1 owner;");
        x.agree(2);
        Due.tell(x, "rate ramp 100 owner;");
        x.agree(1);
        Due.tell(x, "rate ramp 10 owner;");
        x.agree(2);
        Due.same("in TICK 0", x.count(3), -1);
        x.ticks(1);
        Due.same("in TICK 1", x.count(3), 1);
        Due.tell(x, "rate ramp 1000 owner;");
        x.agree(1);
        Due.same("in TICK 1, told again", x.count(3), 3);
        x.ticks(1);
        Due.same("TICK 1 costs", x.of(0, 7), 1000);
        Due.same("in TICK 2", x.count(3), 2);
        x.ticks(1);
        Due.same("TICK 2 costs", x.of(0, 7), 1010);
    }

    private static void threeHundredBytes() {
        Due.sentence("TEXT, at most 300 bytes");
        String rule = "rate ramp 7 owner;";
        String blanks = " ".repeat(300 - rule.length());
        costs(blanks + rule, 1, 7, 0);
        costs(rule + blanks, 1, 7, 0);
        fault(blanks + "rate ramp 7 owner ", 1, 300);
        fault(blanks + " rate ramp 7 owner", 1, 300);
        TrainFerry x = new TrainFerry();
        Due.tell(x, " ".repeat(300));
        Due.same("no more come", x.feed(0, 0, 0, 0, 0), -1);
        Due.same("300 blanks", x.agree(0), 0);
    }

    private static void noRuleAtAll() {
        Due.sentence("{RULE}: none, one or several");
        right("");
        right(" ");
        right("\n");
        right("free 1;");
        right("free 1;free 2;");
        right("rate ramp 1 both;free 1;rate away 2 owner;");
        right(TWENTY);
    }

    private static void ruleFree() {
        Due.sentence("free NUMBER ;");
        right("free 1;");
        fault("free;", 1, 4);
        fault("free 1", 1, 6);
        fault("1;", 1, 0);
        fault("free free 1;", 1, 5);
        fault("free ramp 1;", 1, 5);
        fault("free 1 owner;", 1, 7);
        fault("free 1 rate ramp 1 owner;", 1, 7);
        fault("free 1 1;", 1, 7);
        fault("free 1;;", 1, 7);
    }

    private static void ruleRate() {
        Due.sentence("rate CAUSE NUMBER PARTY ;");
        right("rate ramp 1 owner;");
        fault("rate;", 1, 4);
        fault("rate 1 owner;", 1, 5);
        fault("rate ramp owner;", 1, 10);
        fault("rate ramp;", 1, 9);
        fault("rate ramp 1;", 1, 11);
        fault("rate ramp 1 1;", 1, 12);
        fault("rate ramp 1 owner", 1, 17);
        fault("rate ramp 1 owner ferry;", 1, 18);
        fault("rate ramp 1 owner 1;", 1, 18);
        fault("rate ramp ramp 1 owner;", 1, 10);
        fault("rate owner 1 ramp;", 1, 5);
        fault("rate ramp 1 owner;;", 1, 18);
        fault("ramp 1 owner;", 1, 0);
    }

    private static void causeWords() {
        Due.sentence("CAUSE: storm, ramp, away, other");
        for (String cause : CAUSES) {
            right("rate " + cause + " 1 owner;");
            fault("rate " + cause + "s 1 owner;", 1, 5);
            fault("rate " + cause.substring(1) + " 1 owner;", 1, 5);
            fault("rate " + cause.substring(0, cause.length() - 1) + " 1 owner;", 1, 5);
            fault("rate ramp 1 " + cause + ";", 1, 12);
            fault(cause + " 1;", 1, 0);
        }
        fault("rate free 1 owner;", 1, 5);
        fault("rate rate 1 owner;", 1, 5);
    }

    private static void partyWords() {
        Due.sentence("PARTY: owner, ferry, both");
        for (String party : PARTIES) {
            right("rate ramp 1 " + party + ";");
            fault("rate ramp 1 " + party + "s;", 1, 12);
            fault("rate ramp 1 " + party.substring(1) + ";", 1, 12);
            fault("rate ramp 1 " + party.substring(0, party.length() - 1) + ";", 1, 12);
            fault("rate " + party + " 1 owner;", 1, 5);
        }
        fault("rate ramp 1 free;", 1, 12);
        fault("rate ramp 1 rate;", 1, 12);
    }

    private static void lastFreeHolds() {
        Due.sentence("Of RULES of one thing the last holds: free");
        costs("free 9;rate ramp 1 owner;free 2;", 5, 3, 0);
        costs("free 2;rate ramp 1 owner;free 4;", 5, 1, 0);
        costs("free 2;rate ramp 1 owner;free 0;", 5, 5, 0);
    }

    private static void lastRateHolds() {
        Due.sentence("Of RULES of one thing the last holds: a rate of one CAUSE");
        costs("rate ramp 9 owner;rate ramp 3 ferry;", 2, 0, 6);
        costs("rate ramp 3 ferry;rate ramp 9 owner;", 2, 18, 0);
        costs("rate ramp 9 both;rate ramp 0 owner;", 2, 0, 0);
        for (int cause = 0; cause < 4; cause++) {
            String others = "rate ramp 5 owner;rate " + CAUSES[cause] + " 8 ferry;";
            costs(others, 1, cause == 1 ? 0 : 5, cause == 1 ? 8 : 0);
        }
    }

    private static void withoutARule() {
        Due.sentence("without one free is 0, a rate 0");
        costs("rate ramp 4 owner;", 1, 4, 0);
        costs("free 0;", 3, 0, 0);
        costs("", 3, 0, 0);
        costs("rate storm 4 owner;rate away 4 ferry;rate other 4 both;", 3, 0, 0);
    }

    private static void blanks() {
        Due.sentence("blanks (32, 10) between where one likes");
        costs("rate ramp 4 both;free 1;", 3, 4, 4);
        costs("rate ramp4both;free1;", 3, 4, 4);
        costs("  rate   ramp  4  both  ;  free  1  ;  ", 3, 4, 4);
        costs("\nrate\nramp\n4\nboth\n;\nfree\n1\n;\n", 3, 4, 4);
        costs(" \n rate \n ramp \n 4 \n both \n ; \n free \n 1 \n ; \n ", 3, 4, 4);
    }

    private static void noOtherBlanks() {
        Due.sentence("blanks are 32 and 10 alone");
        int[] others = {0, 1, 8, 9, 11, 12, 13, 31, 33, 127, 128, 133, 160, 255};
        for (int other : others) {
            char sign = (char) other;
            fault(sign + "free 1;", 1, 0);
            fault("free" + sign + "1;", 1, 4);
            fault("free 1" + sign + ";", 1, 6);
            fault("free 1;" + sign, 1, 7);
        }
    }

    private static void words() {
        Due.sentence("WORDS (small letters, as many as stand together)");
        fault("freerate ramp 1 owner;", 1, 0);
        fault("ratestorm 1 owner;", 1, 0);
        fault("freee 1;", 1, 0);
        fault("ffree 1;", 1, 0);
        fault("fre e 1;", 1, 0);
        fault("f ree 1;", 1, 0);
        fault("rate st orm 1 owner;", 1, 5);
        fault("rate storm 1 bothboth;", 1, 13);
        fault("rate storm 1 bot h;", 1, 13);
        fault("fre", 1, 0);
        fault("free 1;f", 1, 7);
        right("rate storm1owner;");
    }

    private static void eachLetterOfAWord() {
        Due.sentence("a WORD is known by all its letters");
        String[] words = {"free", "rate", "storm", "ramp", "away", "other", "owner", "ferry", "both"};
        for (String word : words) {
            for (int i = 0; i < word.length(); i++) {
                String other = word.substring(0, i) + 'x' + word.substring(i + 1);
                if (word.equals("free")) {
                    fault(other + " 1;", 1, 0);
                } else if (word.equals("rate")) {
                    fault(other + " ramp 1 both;", 1, 0);
                } else {
                    fault("rate " + other + " 1 both;", 1, 5);
                    fault("rate ramp 1 " + other + ";", 1, 12);
                }
            }
        }
    }

    private static void lettersOfWords() {
        Due.sentence("small letters");
        fault("Free 1;", 1, 0);
        fault("FREE 1;", 1, 0);
        fault("freE 1;", 1, 0);
        fault("freeE 1;", 1, 4);
        fault("free` 1;", 1, 4);
        fault("free{ 1;", 1, 4);
        fault("freea 1;", 1, 0);
        fault("freez 1;", 1, 0);
        fault("free" + (char) 228 + " 1;", 1, 4);
        fault("rate Storm 1 owner;", 1, 5);
        fault("rate storm 1 Owner;", 1, 13);
    }

    private static void numbers() {
        Due.sentence("NUMBERS (1 to 4 digits)");
        String[] texts = {"0", "1", "9", "00", "01", "10", "99", "000", "007", "100", "999", "0000", "0008", "1000", "9999"};
        for (String text : texts) {
            int number = Integer.parseInt(text);
            costs("rate ramp " + text + " owner;", 2, 2 * number, 0);
            costs("rate ramp 1 owner;free " + text + ";", 10, Math.max(0, 10 - number), 0);
        }
        fault("free ;", 1, 5);
        fault("free 10000;", 1, 5);
    }

    private static void digitsOfNumbers() {
        Due.sentence("digits");
        fault("free /;", 1, 5);
        fault("free :;", 1, 5);
        fault("free 1/;", 1, 6);
        fault("free 1:;", 1, 6);
        fault("free -1;", 1, 5);
        fault("free +1;", 1, 5);
        fault("free 1.0;", 1, 6);
        fault("free 1a;", 1, 6);
        fault("free a1;", 1, 5);
        fault("free 1 2;", 1, 7);
        for (int digit = 0; digit <= 9; digit++) {
            costs("rate ramp " + digit + " owner;", 1, digit, 0);
            costs("rate ramp 1" + digit + " owner;", 1, 10 + digit, 0);
        }
    }

    private static void sign() {
        Due.sentence("the SIGN ;");
        fault(";", 1, 0);
        fault("free;1", 1, 4);
        fault("free 1:", 1, 6);
        fault("free 1<", 1, 6);
        fault("free 1,", 1, 6);
        fault("free 1;;", 1, 7);
        fault("free 1; ;", 1, 8);
        right("free 1 ;");
    }

    private static void wrongToken() {
        Due.sentence("1 a byte or TOKEN with which no TEXT goes on");
        fault("free x;", 1, 5);
        fault("free  owner;", 1, 6);
        fault("free 1\n\nfree 2;", 1, 8);
        fault("#", 1, 0);
        fault("free#", 1, 4);
        fault("free 12#", 1, 7);
        fault("free 1;#", 1, 7);
        fault("  #", 1, 2);
        fault("rate#", 1, 4);
        fault("rate storm#", 1, 10);
        fault("rate storm 1#", 1, 12);
        fault("rate storm 1 both#", 1, 17);
        fault("free 1;7", 1, 7);
        fault("free 1;owner", 1, 7);
    }

    private static void longerNumber() {
        Due.sentence("(a longer NUMBER at its first byte");
        fault("free 12345;", 1, 5);
        fault("free 00001;", 1, 5);
        fault("free   123456789;", 1, 7);
        fault("free 12345", 1, 5);
        fault("free 12345#", 1, 5);
        fault("free12345;", 1, 4);
        fault("rate ramp 10000 owner;", 1, 10);
        fault("12345", 1, 0);
        fault("rate 12345", 1, 5);
        fault("free 1;12345", 1, 7);
        fault("free " + "1".repeat(295), 1, 5);
        fault("free " + "0".repeat(290) + ";", 1, 5);
        fault("free 1234 5;", 1, 10);
    }

    private static void theEnd() {
        Due.sentence("the end: at how many bytes there are)");
        fault("free", 1, 4);
        fault("free ", 1, 5);
        fault("free\n\n", 1, 6);
        fault("free 1", 1, 6);
        fault("free 1234", 1, 9);
        fault("free 1 ", 1, 7);
        fault("rate", 1, 4);
        fault("rate storm", 1, 10);
        fault("rate storm 1", 1, 12);
        fault("rate storm 1 both", 1, 17);
        fault("rate storm 1 both  ", 1, 19);
        fault("free 1;rate", 1, 11);
        fault("free" + " ".repeat(296), 1, 300);
    }

    private static void aRuleTooMany() {
        Due.sentence("2 as a 21st RULE begins (at its first TOKEN");
        right(TWENTY);
        right(TWENTY + " \n ");
        right("rate ramp 1 both;".repeat(10) + "free 1;".repeat(10));
        fault(TWENTY + "free 1;", 2, 140);
        fault(TWENTY + "  free 1;", 2, 142);
        fault(TWENTY + "rate ramp 1 owner;", 2, 140);
        fault(TWENTY + "free", 2, 140);
        fault(TWENTY + "rate", 2, 140);
        fault(TWENTY + "free 12345", 2, 140);
        fault(TWENTY + "rate#", 2, 140);
        fault(TWENTY + TWENTY, 2, 140);
    }

    private static void ifItMayStandThere() {
        Due.sentence("if that may stand there)");
        fault(TWENTY + "fre", 1, 140);
        fault(TWENTY + "freedom 1;", 1, 140);
        fault(TWENTY + "ramp", 1, 140);
        fault(TWENTY + ";", 1, 140);
        fault(TWENTY + " 1", 1, 141);
        fault(TWENTY + "12345", 1, 140);
        fault(TWENTY + "\n#", 1, 141);
    }

    private static void theFirstFromTheLeft() {
        Due.sentence("FAULTS, the first from the left");
        fault("free x; free 12345; #", 1, 5);
        fault("free 12345; #", 1, 5);
        fault("#free x;", 1, 0);
        fault("free 1;".repeat(19) + "free x;" + "free 1;", 1, 138);
        fault("free x;" + TWENTY, 1, 5);
        fault(TWENTY + "free x;", 2, 140);
        fault("free 1;".repeat(19) + "free 1", 1, 139);
    }

    private static void byTheOneInForce() {
        Due.sentence("costs, by the AGREEMENT in force in it");
        TrainFerry x = new TrainFerry();
        x.wagon(0, 0, 10, 10, 0);
        Due.tell(x, "rate ramp 1 owner;");
        x.agree(2);
        Due.tell(x, "rate ramp 10 ferry;");
        x.agree(4);
        x.agree(5);
        int[] owner = {0, 0, 1, 2, 2, 2};
        int[] ferry = {0, 0, 0, 0, 10, 10};
        for (int tick = 0; tick < owner.length; tick++) {
            x.ticks(1);
            Due.same("owner, TICK " + tick, x.of(0, 7), owner[tick]);
            Due.same("ferry, TICK " + tick, x.of(0, 8), ferry[tick]);
        }
        TrainFerry y = new TrainFerry();
        y.wagon(0, 0, 10, 10, 0);
        Due.tell(y, "rate ramp 1 owner;");
        y.agree(2);
        y.agree(4);
        y.ticks(9);
        Due.same("many TICKS at once", y.of(0, 7), 2);
    }

    private static void moreThanFree() {
        Due.sentence("if it WAITED for more TICKS than free by then (this one counted)");
        for (int free = 0; free <= 3; free++) {
            costs("rate ramp 5 owner;free " + free + ";", free == 0 ? 1 : free, free == 0 ? 5 : 0, 0);
            costs("rate ramp 5 owner;free " + free + ";", free + 1, 5, 0);
            costs("rate ramp 5 owner;free " + free + ";", free + 2, 10, 0);
        }
        TrainFerry x = agreed("rate ramp 5 owner;free 9999;");
        x.wagon(0, 0, 10, 10, 0);
        for (int i = 0; i < 49; i++) {
            x.ticks(200);
        }
        x.ticks(199);
        Due.same("9999 are free", x.of(0, 7), 0);
        x.ticks(1);
        Due.same("the next one is not", x.of(0, 7), 5);
    }

    private static void waitedByAnyCause() {
        Due.sentence("it WAITED .. by then: by any CAUSE, with or without an AGREEMENT, each WAGON for itself");
        TrainFerry x = new TrainFerry();
        x.wagon(0, 0, 10, 10, 0);
        x.sea(5);
        x.ticks(2);
        x.sea(0);
        Due.tell(x, "free 4;rate ramp 1 owner;rate other 10 owner;rate away 100 owner;");
        x.agree(2);
        x.ticks(1);
        x.tide(0, 3, 0);
        x.ticks(1);
        Due.same("storm 2, ramp 1, other 1 of free 4", x.of(0, 7), 0);
        x.ticks(1);
        Due.same("and then other", x.of(0, 7), 10);
        x.wagon(0, 0, 10, 10, 0);
        x.ticks(4);
        Due.same("the second one WAITED for 4", x.of(1, 7), 0);
        x.sail();
        x.ticks(1);
        Due.same("and for 5: away", x.of(1, 7), 100);
        Due.same("the first one", x.of(0, 7), 150);
    }

    private static void rateOfItsCause() {
        Due.sentence("the rate of its CAUSE");
        TrainFerry x = agreed("rate storm 1 owner;rate ramp 10 owner;rate away 100 owner;rate other 1000 owner;");
        x.wagon(0, 0, 10, 10, 0);
        x.wagon(1, 0, 10, 10, 0);
        x.sea(5);
        x.ticks(1);
        Due.same("storm", x.of(0, 7), 1);
        x.sea(0);
        x.ticks(1);
        Due.same("ramp", x.of(0, 7), 11);
        x.tide(0, 2, 0);
        x.tide(1, 2, 0);
        x.ticks(1);
        Due.same("other", x.of(0, 7), 1011);
        Due.same("away", x.of(1, 7), 111);
        x.on(0, 0);
        Due.same("one on the DECK costs nothing", x.of(0, 7), 1011);
        Due.same("away", x.of(1, 7), 211);
        x.off(0, 0);
        Due.same("nor one that was on the DECK", x.of(0, 7), 1011);
    }

    private static void halves() {
        Due.sentence("both: the owner half of it (cut), the ferry the rest");
        int[][] rates = {{0, 0, 0}, {1, 0, 1}, {2, 1, 1}, {3, 1, 2}, {7, 3, 4}, {9998, 4999, 4999}, {9999, 4999, 5000}};
        for (int[] r : rates) {
            costs("rate ramp " + r[0] + " both;", 1, r[1], r[2]);
            costs("rate ramp " + r[0] + " both;", 3, 3 * r[1], 3 * r[2]);
            costs("rate ramp " + r[0] + " owner;", 3, 3 * r[0], 0);
            costs("rate ramp " + r[0] + " ferry;", 3, 0, 3 * r[0]);
        }
    }

    private static void withoutAnAgreement() {
        Due.sentence("Without an AGREEMENT nothing.");
        TrainFerry x = new TrainFerry();
        x.wagon(0, 0, 10, 10, 0);
        x.ticks(10);
        Due.same("it WAITED", x.of(0, 4), 10);
        Due.same("owner", x.of(0, 7), 0);
        Due.same("ferry", x.of(0, 8), 0);
        Due.tell(x, "rate ramp 5 both;");
        x.agree(12);
        x.ticks(2);
        Due.same("not yet", x.of(0, 7) + x.of(0, 8), 0);
        Due.tell(x, "rate ramp 5 owner;#");
        Due.same("one with a FAULT is none", x.agree(12), -3);
        x.ticks(1);
        Due.same("owner", x.of(0, 7), 2);
        Due.same("ferry", x.of(0, 8), 3);
        TrainFerry y = new TrainFerry();
        y.wagon(0, 0, 10, 10, 0);
        for (int i = 0; i < 20; i++) {
            Due.tell(y, "rate ramp 5 owner;");
            y.agree(3 + i);
        }
        y.ticks(3);
        Due.same("twenty, but none in force yet", y.of(0, 7), 0);
        y.ticks(1);
        Due.same("then one", y.of(0, 7), 5);
    }
}
