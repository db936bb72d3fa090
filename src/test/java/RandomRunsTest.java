import java.util.NoSuchElementException;
import java.util.Random;

/**
 * All promises: runs of 512 calls, drawn from fixed seeds, answered as PlainFerry answers them. (What later
 * calls answer is free.)
 */
public final class RandomRunsTest {
    private static final int RUNS = 8000;
    private static final int MOST_CALLS = 512;
    /** More than one way of calling takes at once. */
    private static final int CALLS_KEPT = 40;
    private static final String[] WORDS = {"free", "rate", "storm", "ramp", "away", "other", "owner", "ferry", "both",
        ";", "0", "7", "12", "345", "9999", "12345", "x", "rates", "#", "\t", "Free"};

    private final Random random;
    private final TrainFerry x = new TrainFerry();
    private final PlainFerry plain = new PlainFerry();
    private final int run;
    private final int mostOnDeck;
    private int calls = 0;

    private RandomRunsTest(int run) {
        this.run = run;
        this.random = new Random(run);
        this.mostOnDeck = run % 25 == 0 ? 40 : 9;
    }

    public static void main(String[] args) {
        int runs = args.length > 0 ? Integer.parseInt(args[0]) : RUNS;
        for (int run = 0; run < runs; run++) {
            new RandomRunsTest(run).go();
        }
        Due.close();
    }

    private void go() {
        begin();
        while (calls < MOST_CALLS - CALLS_KEPT) {
            call();
            look();
        }
        while (calls < MOST_CALLS) {
            look();
        }
    }

    /** Each answer that is looked at here is that of one call. */
    private void same(String call, long got, long want) {
        calls++;
        Due.same("run " + run + ": " + call, got, want);
    }

    private static long told(boolean b) {
        return b ? 1 : 0;
    }

    private int from(int least, int most) {
        return least + random.nextInt(most - least + 1);
    }

    /** Mostly within, now and then a little beyond, seldom far beyond. */
    private int near(int least, int most) {
        int way = random.nextInt(60);
        if (way == 0) {
            return random.nextInt();
        }
        return way < 4 ? from(least - 1, most + 1) : from(least, most);
    }

    private void ship() {
        int length = near(40, 200);
        int limit = random.nextInt(2) == 0 ? near(0, 2000) : from(0, 300);
        int reach = near(0, 50);
        int chains = random.nextInt(2) == 0 ? near(0, 1000) : from(0, 60);
        same("ship(" + length + ", " + limit + ", " + reach + ", " + chains + ")",
            told(x.ship(length, limit, reach, chains)), told(plain.ship(length, limit, reach, chains)));
    }

    private void begin() {
        int length = from(40, run % 25 == 0 ? 200 : 120);
        int limit = run % 3 == 0 ? from(0, 120) : from(60, 500);
        int reach = from(3, 30);
        int chains = from(0, 60);
        same("ship", told(x.ship(length, limit, reach, chains)), told(plain.ship(length, limit, reach, chains)));
        for (int shore = 0; shore < 2; shore++) {
            int v = from(-2, 8);
            same("tide", told(x.tide(shore, 0, v)), told(plain.tide(shore, 0, v)));
        }
    }

    private void call() {
        int way = random.nextInt(100);
        if (way < 1) {
            ship();
        } else if (way < 18) {
            wagon();
        } else if (way < 44) {
            on();
        } else if (way < 56) {
            off();
        } else if (way < 60) {
            ticks();
        } else if (way < 64) {
            same("sail()", x.sail(), plain.sail());
        } else if (way < 70) {
            int v = random.nextInt(3) == 0 ? near(0, 5) : near(0, 2);
            same("sea(" + v + ")", told(x.sea(v)), told(plain.sea(v)));
        } else if (way < 74) {
            int shore = near(0, 1);
            boolean broken = random.nextInt(4) == 0;
            same("ramp", told(x.ramp(shore, broken)), told(plain.ramp(shore, broken)));
        } else if (way < 80) {
            tide();
        } else if (way < 85) {
            text();
        } else if (way < 94) {
            loading();
        } else {
            emptying();
        }
    }

    private void wagon() {
        int shore = near(0, 1);
        int track = near(0, 2);
        int length = near(6, 26);
        int weight = near(10, 90);
        int kind = random.nextInt(3) == 0 ? near(0, 3) : 0;
        same("wagon(" + shore + ", " + track + ", " + length + ", " + weight + ", " + kind + ")",
            x.wagon(shore, track, length, weight, kind), plain.wagon(shore, track, length, weight, kind));
    }

    private void on() {
        if (plain.ferry(5) >= mostOnDeck) {
            off();
            return;
        }
        int track = near(0, 2);
        int deck = near(0, 3);
        same("on(" + track + ", " + deck + ")", x.on(track, deck), plain.on(track, deck));
    }

    private void off() {
        int deck = near(0, 3);
        int track = near(0, 2);
        same("off(" + deck + ", " + track + ")", x.off(deck, track), plain.off(deck, track));
    }

    private void ticks() {
        int n = random.nextInt(5) == 0 ? near(1, 200) : near(1, 8);
        same("ticks(" + n + ")", x.ticks(n), plain.ticks(n));
    }

    private void tide() {
        int shore = near(0, 1);
        int now = (int) plain.count(0);
        int tick = random.nextInt(10) == 0 ? from(now - 1, 5001 + now) : from(now - 1, now + 15);
        int v = random.nextInt(4) == 0 ? near(-50, 50) : from(-6, 10);
        same("tide(" + shore + ", " + tick + ", " + v + ")", told(x.tide(shore, tick, v)), told(plain.tide(shore, tick, v)));
    }

    private String randomText() {
        StringBuilder text = new StringBuilder();
        int rules = random.nextInt(6) == 0 ? from(17, 23) : from(0, 6);
        for (int i = 0; i < rules; i++) {
            String blank = random.nextInt(3) == 0 ? "\n " : " ";
            if (random.nextInt(2) == 0 || rules > 10) {
                text.append("free").append(blank).append(from(0, 60)).append(";");
            } else {
                text.append("rate").append(blank).append(WORDS[from(2, 5)]).append(blank);
                text.append(from(0, 9999)).append(blank).append(WORDS[from(6, 8)]).append(";");
            }
        }
        int faults = random.nextInt(3) == 0 ? from(1, 2) : 0;
        for (int i = 0; i < faults; i++) {
            int at = from(0, text.length());
            if (random.nextInt(2) == 0 && at < text.length()) {
                text.setCharAt(at, (char) random.nextInt(256));
            } else {
                text.insert(at, WORDS[random.nextInt(WORDS.length)]);
            }
        }
        return text.length() > 300 ? text.substring(0, 300) : text.toString();
    }

    private void text() {
        String text = randomText();
        for (int i = 0; i < text.length(); i += 20) {
            int[] five = new int[5];
            for (int k = 0; k < 20; k++) {
                five[k / 4] = five[k / 4] << 8 | (i + k < text.length() ? text.charAt(i + k) : 32);
            }
            same("feed", x.feed(five[0], five[1], five[2], five[3], five[4]),
                plain.feed(five[0], five[1], five[2], five[3], five[4]));
        }
        int n = random.nextInt(10) == 0 ? near(0, 300) : text.length();
        same("end(" + n + ")", x.end(n), plain.end(n));
        int now = (int) plain.count(0);
        int tick = random.nextInt(8) == 0 ? from(now - 2, 5001 + now) : from(now, now + 10);
        same("agree(" + tick + ") of " + text, x.agree(tick), plain.agree(tick));
        same("place()", x.place(), plain.place());
    }

    private void loading() {
        int most = random.nextInt(40) == 0 ? 6 : 4;
        int a = near(0, 2);
        int b = near(0, 2);
        int c = near(0, 2);
        if (random.nextInt(4) == 0) {
            a += 2;
            c = 0;
        }
        if (a + b + c > most && a + b + c <= 6) {
            return;
        }
        same("loading(" + a + ", " + b + ", " + c + ")", x.loading(a, b, c), plain.loading(a, b, c));
        for (int i = 0; i < 6 && plain.step(i, 0) >= 0; i++) {
            same("step(" + i + ", 0)", x.step(i, 0), plain.step(i, 0));
            same("step(" + i + ", 1)", x.step(i, 1), plain.step(i, 1));
        }
    }

    private void emptying() {
        same("emptying()", x.emptying(), plain.emptying());
        int last = Math.min(plain.ferry(5), 8);
        for (int i = 0; i <= last; i++) {
            same("emptied(" + i + ")", x.emptied(i), plain.emptied(i));
        }
        int any = from(0, plain.ferry(5));
        same("emptied(" + any + ")", x.emptied(any), plain.emptied(any));
    }

    private void look() {
        switch (random.nextInt(8)) {
            case 0:
                lookAtFerry();
                break;
            case 1:
                lookAtRamps();
                break;
            case 2:
                int what = near(0, 8);
                same("count(" + what + ")", x.count(what), plain.count(what));
                break;
            case 3:
                int i = near(0, 5);
                int which = near(0, 1);
                same("step(" + i + ", " + which + ")", x.step(i, which), plain.step(i, which));
                break;
            case 4:
                lookAtTracks();
                break;
            default:
                int wagon = near(0, Math.max(0, (int) plain.count(1) - 1));
                int of = near(0, 9);
                same("of(" + wagon + ", " + of + ")", x.of(wagon, of), plain.of(wagon, of));
                break;
        }
    }

    private void lookAtFerry() {
        int what = near(0, 5);
        long got = 0;
        long want = 0;
        try {
            got = x.ferry(what);
        } catch (NoSuchElementException e) {
            got = Long.MIN_VALUE;
        }
        try {
            want = plain.ferry(what);
        } catch (NoSuchElementException e) {
            want = Long.MIN_VALUE;
        }
        same("ferry(" + what + ")", got, want);
    }

    private void lookAtRamps() {
        int shore = near(0, 1);
        long got = 0;
        long want = 0;
        try {
            got = told(x.isOpen(shore));
        } catch (NoSuchElementException e) {
            got = Long.MIN_VALUE;
        }
        try {
            want = told(plain.isOpen(shore));
        } catch (NoSuchElementException e) {
            want = Long.MIN_VALUE;
        }
        same("isOpen(" + shore + ")", got, want);
    }

    private void lookAtTracks() {
        int track = near(0, 3);
        int i = near(0, random.nextInt(4) == 0 ? 12 : 3);
        if (random.nextInt(3) == 0) {
            same("deck(" + track + ", " + i + ")", x.deck(track, i), plain.deck(track, i));
        } else {
            int shore = near(0, 1);
            same("yard(" + shore + ", " + track + ", " + i + ")", x.yard(shore, track, i), plain.yard(shore, track, i));
        }
    }
}
