import java.io.IOException;
import java.nio.file.Files;
import java.nio.file.Path;
import java.util.List;

/** What README.md tells of the use of the class, done; and every call of the face stands on that page. */
public final class ReadmeTest {
    public static void main(String[] args) throws IOException {
        firstExample();
        agreements();
        everyCallIsTold();
        Due.close();
    }

    private static void firstExample() {
        TrainFerry ferry = new TrainFerry();
        Due.yes("the tide", ferry.tide(0, 0, 0));
        Due.yes("the ramp is open", ferry.isOpen(0));
        Due.same("the wagon", ferry.wagon(0, 0, 20, 40, 0), 0);
        Due.same("the least list", ferry.loading(1, 0, 0), 40);
        int deck = ferry.step(0, 1);
        Due.same("the track of the deck", deck, 1);
        Due.same("the list", ferry.on(0, deck) - 10000, -40);
        Due.same("a tick went", ferry.count(0), 1);
        int there = ferry.sail();
        Due.same("at sea until", there, 11);
        Due.same("the ticks", ferry.ticks(there - (int) ferry.count(0)), 11);
        Due.same("the ferry is at shore 1", ferry.ferry(0), 1);
        Due.no("its ramp can be used without a tide", ferry.isOpen(1));
        Due.yes("the tide there", ferry.tide(1, 11, 3));
        Due.same("drawn off", ferry.off(deck, 2), 10000);
        Due.same("where it is", ferry.yard(1, 2, 0), 0);
    }

    private static void agreements() {
        TrainFerry ferry = new TrainFerry();
        tell(ferry, "free 3; rate ramp 10 both;");
        Due.same("bytes on the tape", ferry.count(4), 26);
        Due.same("the agreement", ferry.agree(0), 0);
        ferry.wagon(0, 0, 20, 40, 0);
        ferry.ticks(5);
        Due.same("the owner pays for two ticks of five", ferry.of(0, 7), 10);
        Due.same("and the ferry", ferry.of(0, 8), 10);
        tell(ferry, "free 3; rate ramp 10;");
        Due.same("a fault", ferry.agree(5), -3);
        Due.same("its place", ferry.place(), 20);
        String longest = " ".repeat(292) + "free 12;";
        tell(ferry, longest);
        Due.same("as long as can be", ferry.agree(5), 1);
    }

    private static void tell(TrainFerry ferry, String text) {
        String padded = text + " ".repeat(20);
        for (int i = 0; i < text.length(); i += 20) {
            ferry.feed(four(padded, i), four(padded, i + 4), four(padded, i + 8), four(padded, i + 12), four(padded, i + 16));
        }
        ferry.end(text.length());
    }

    private static int four(String text, int i) {
        return text.charAt(i) << 24 | text.charAt(i + 1) << 16 | text.charAt(i + 2) << 8 | text.charAt(i + 3);
    }

    private static void everyCallIsTold() throws IOException {
        String page = Files.readString(Path.of("README.md"));
        List<String> calls = List.of("ship", "wagon", "tide", "sea", "ramp", "ticks", "feed", "end", "agree", "place",
            "on", "off", "sail", "loading", "step", "emptying", "emptied", "isOpen", "ferry", "deck", "yard", "of", "count");
        for (String call : calls) {
            Due.yes(call + " stands in README.md", page.contains("| `" + call + "("));
        }
    }
}
