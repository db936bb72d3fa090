import java.nio.charset.StandardCharsets;
import java.util.NoSuchElementException;

/** What every test uses: answers compared with what is due, and texts put on the TAPE. */
final class Due {
    private static int wrong = 0;
    private static int looked = 0;
    private static String words = "";
    private static int sentences = 0;
    private static int lookedAhead = 0;

    private Due() {
    }

    /** The words of the document that the answers from here on are looked at for. */
    static void sentence(String told) {
        endSentence();
        words = "'" + told + "': ";
        sentences++;
        lookedAhead = looked;
    }

    private static void endSentence() {
        if (sentences > 0 && looked == lookedAhead) {
            wrong++;
            System.out.println(words + "no answer is looked at");
        }
    }

    static void same(String call, long got, long want) {
        looked++;
        if (got != want) {
            wrong++;
            System.out.println(words + call + " answered " + got + ", due is " + want);
        }
    }

    static void same(String call, String got, String want) {
        looked++;
        if (!got.equals(want)) {
            wrong++;
            System.out.println(words + call + " answered " + got + ", due is " + want);
        }
    }

    static void yes(String call, boolean got) {
        same(call, got ? 1 : 0, 1);
    }

    static void no(String call, boolean got) {
        same(call, got ? 1 : 0, 0);
    }

    static void noSuchShore(TrainFerry x, int shore) {
        boolean thrown = false;
        try {
            x.isOpen(shore);
        } catch (NoSuchElementException e) {
            thrown = true;
        }
        yes("isOpen(" + shore + ") throws", thrown);
    }

    static void noSuchThing(TrainFerry x, int what) {
        boolean thrown = false;
        try {
            x.ferry(what);
        } catch (NoSuchElementException e) {
            thrown = true;
        }
        yes("ferry(" + what + ") throws", thrown);
    }

    /** Puts a text behind the TAPE; what feed() adds beyond it is cut off again. */
    static void tell(TrainFerry x, String text) {
        tell(x, text.getBytes(StandardCharsets.ISO_8859_1));
    }

    static void tell(TrainFerry x, byte[] text) {
        int before = (int) x.count(4);
        for (int i = 0; i < text.length; i += 20) {
            x.feed(four(text, i), four(text, i + 4), four(text, i + 8), four(text, i + 12), four(text, i + 16));
        }
        same("end() of a told text", x.end(before + text.length), before + text.length);
    }

    private static int four(byte[] text, int at) {
        int number = 0;
        for (int i = at; i < at + 4; i++) {
            number = number << 8 | (i < text.length ? text[i] & 255 : 0);
        }
        return number;
    }

    /** Ends the test, with exit code 1 if an answer was not as due. */
    static void close() {
        endSentence();
        String of = sentences > 0 ? " for " + sentences + " sentences" : "";
        System.out.println(looked + " answers looked at" + of + ", " + wrong + " not as due");
        if (wrong > 0 || looked == 0) {
            System.exit(1);
        }
    }
}
