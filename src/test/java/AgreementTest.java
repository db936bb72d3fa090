/** Promises 8 to 11: the TAPE, AGREEMENTS and their FAULTS. */
public final class AgreementTest {
    public static void main(String[] args) {
        tape();
        rightTexts();
        faults();
        bytesThatAreNone();
        twentyRules();
        wrongTicks();
        twentyAgreements();
        inForce();
        placeOfTheLatest();
        Due.close();
    }

    private static void tape() {
        TrainFerry x = new TrainFerry();
        for (int i = 1; i <= 15; i++) {
            Due.same("feed", x.feed(0x20202020, 0x0a0a0a0a, 0x20202020, 0x20202020, 0x20202020), 20 * i);
        }
        Due.same("a feed too many", x.feed(0, 0, 0, 0, 0), -1);
        Due.same("count(4)", x.count(4), 300);
        Due.same("end(301)", x.end(301), -1);
        Due.same("end(-1)", x.end(-1), -1);
        Due.same("end(300)", x.end(300), 300);
        Due.same("end(281)", x.end(281), 281);
        Due.same("301 bytes", x.feed(0, 0, 0, 0, 0), -1);
        Due.same("end(280)", x.end(280), 280);
        Due.same("300 bytes", x.feed(0x20202020, 0x20202020, 0x20202020, 0x20202020, 0x0a200a20), 300);
        Due.same("a TEXT of blanks", x.agree(0), 0);
        Due.same("the TAPE is empty then", x.count(4), 0);
        Due.same("end(0)", x.end(0), 0);
        Due.same("end(1)", x.end(1), -1);
        Due.same("the highest first", x.feed(0x66726565, 0x373b2020, 0x20202020, 0x20202020, 0x20202020), 20);
        Due.same("free7;", x.agree(0), 1);
    }

    private static void rightTexts() {
        String[] texts = {"", " ", "\n \n", "free 0;", "free 9999;", "free0000;", " free\n1 ; ", "free1;free2;",
            "rate storm 1 owner;", "rate ramp 12 ferry;", "rate away 123 both;", "rate other 1234 both;",
            "rate storm1owner;rate ramp2both;", "rate\nstorm\n0\nowner\n;\n", "free 1;rate other 0 both;free 3;"};
        for (int i = 0; i < texts.length; i++) {
            TrainFerry x = new TrainFerry();
            Due.tell(x, texts[i]);
            Due.same("agree: " + texts[i], x.agree(0), 0);
            Due.same("place: " + texts[i], x.place(), -1);
            Due.same("count(2): " + texts[i], x.count(2), 1);
        }
    }

    private static void faults() {
        fault("x", 1, 0);
        fault(" fre", 1, 1);
        fault("freex 1;", 1, 0);
        fault("freea 1;", 1, 0);
        fault("freez 1;", 1, 0);
        fault("frea 1;", 1, 0);
        fault("tree 1;", 1, 0);
        fault("Free 1;", 1, 0);
        fault("free", 1, 4);
        fault("free  \n", 1, 7);
        fault("free ;", 1, 5);
        fault("free one;", 1, 5);
        fault("free 12345;", 1, 5);
        fault("free 1", 1, 6);
        fault("free 1 2;", 1, 7);
        fault("free 1 free 2;", 1, 7);
        fault("free 1;;", 1, 7);
        fault("free 1; 5", 1, 8);
        fault("free 1; 55555", 1, 8);
        fault("free -1;", 1, 5);
        fault("free 1.5;", 1, 6);
        fault("free\t1;", 1, 4);
        fault(";", 1, 0);
        fault("12", 1, 0);
        fault("ratestorm 1 owner;", 1, 0);
        fault("rate", 1, 4);
        fault("rate free", 1, 5);
        fault("rate 1", 1, 5);
        fault("rate stormy 1 owner;", 1, 5);
        fault("rate storm", 1, 10);
        fault("rate storm owner;", 1, 11);
        fault("rate storm 00001 owner;", 1, 11);
        fault("rate storm 1", 1, 12);
        fault("rate storm 1;", 1, 12);
        fault("rate storm 1 other;", 1, 13);
        fault("rate storm 1 ownerferry;", 1, 13);
        fault("rate storm 1 both", 1, 17);
        fault("rate storm 1 both 2;", 1, 18);
        fault("free 1;rate away 1 both;rate ramp 1 all;", 1, 36);
        fault("free 12#", 1, 7);
        fault("free#", 1, 4);
        fault("fre#", 1, 0);
        fault("#", 1, 0);
    }

    private static void fault(String text, int kind, int place) {
        TrainFerry x = new TrainFerry();
        Due.tell(x, text);
        Due.same("agree: " + text, x.agree(0), -2 - kind);
        Due.same("place: " + text, x.place(), place);
        Due.same("count(2): " + text, x.count(2), 0);
        Due.same("count(3): " + text, x.count(3), -1);
        Due.same("count(4): " + text, x.count(4), 0);
    }

    private static void bytesThatAreNone() {
        String asked = "abcdefghijklmnopqrstuvwxyz0123456789; \n";
        for (int sign = 0; sign < 256; sign++) {
            TrainFerry x = new TrainFerry();
            Due.tell(x, new byte[] {'f', 'r', 'e', 'e', ' ', '1', (byte) sign, ' '});
            boolean isDigit = sign >= '0' && sign <= '9';
            int place = isDigit || sign == ' ' || sign == '\n' ? 8 : 6;
            Due.same("agree: byte " + sign, x.agree(0), sign == ';' ? 0 : -3);
            Due.same("place: byte " + sign, x.place(), sign == ';' ? -1 : place);

            TrainFerry y = new TrainFerry();
            Due.tell(y, new byte[] {' ', (byte) sign});
            boolean isBlank = sign == ' ' || sign == '\n';
            Due.same("agree: lone byte " + sign, y.agree(0), isBlank ? 0 : -3);
            Due.same("place: lone byte " + sign, y.place(), isBlank ? -1 : 1);
            Due.yes("a sign of a TEXT", asked.indexOf(sign) < 0 || sign < 128);
        }
    }

    private static void twentyRules() {
        String twenty = "free 1;".repeat(20);
        TrainFerry x = new TrainFerry();
        Due.tell(x, twenty + "  \n");
        Due.same("twenty RULES", x.agree(0), 0);
        fault(twenty + "free 1;", 2, 140);
        fault(twenty + " rate nonsense", 2, 141);
        fault(twenty + "\n\nfree", 2, 142);
        fault(twenty + "freedom", 1, 140);
        fault(twenty + " ;", 1, 141);
        fault(twenty + "7", 1, 140);
        fault(twenty + "#free", 1, 140);
        fault("free 1;".repeat(19) + "free 1", 1, 139);
        fault("free 1;".repeat(10) + "free;" + "free 1;".repeat(20), 1, 74);
        fault("free 1;".repeat(42), 2, 140);
    }

    private static void wrongTicks() {
        TrainFerry x = new TrainFerry();
        x.ticks(5);
        Due.tell(x, "free 1;");
        Due.same("agree(4)", x.agree(4), -1);
        Due.same("agree(-1)", x.agree(-1), -1);
        Due.same("agree(5001)", x.agree(5001), -1);
        Due.same("the TAPE stays", x.count(4), 7);
        Due.same("agree(5000)", x.agree(5000), 0);
        Due.same("agree(5)", x.agree(5), 1);
        Due.same("count(3)", x.count(3), 1);
    }

    private static void twentyAgreements() {
        TrainFerry x = new TrainFerry();
        for (int i = 0; i < 20; i++) {
            Due.tell(x, "free " + i + ";");
            Due.same("of twenty", x.agree(i), i);
            Due.tell(x, "free");
            if (i < 19) {
                Due.same("a FAULT between", x.agree(i), -3);
            }
        }
        Due.same("behind twenty", x.agree(0), -1);
        Due.same("the TAPE stays", x.count(4), 4);
        Due.same("place()", x.place(), -1);
        Due.same("count(2)", x.count(2), 20);
    }

    private static void inForce() {
        TrainFerry x = new TrainFerry();
        Due.same("agree(3)", x.agree(3), 0);
        Due.same("agree(1)", x.agree(1), 1);
        Due.same("agree(3)", x.agree(3), 2);
        Due.same("agree(2)", x.agree(2), 3);
        Due.same("agree(6)", x.agree(6), 4);
        int[] due = {-1, 1, 3, 2, 2, 2, 4, 4};
        for (int tick = 0; tick < due.length; tick++) {
            Due.same("in force in " + tick, x.count(3), due[tick]);
            x.ticks(1);
        }
    }

    private static void placeOfTheLatest() {
        TrainFerry x = new TrainFerry();
        Due.same("place() without", x.place(), -1);
        Due.tell(x, "free 1;!");
        Due.same("agree", x.agree(0), -3);
        Due.same("place()", x.place(), 7);
        Due.same("NONE leaves it", x.agree(-1), -1);
        Due.same("place()", x.place(), 7);
        Due.same("agree", x.agree(0), 0);
        Due.same("place() without a FAULT", x.place(), -1);
    }
}
