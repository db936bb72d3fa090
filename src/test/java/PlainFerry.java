import java.util.ArrayList;
import java.util.HashMap;
import java.util.HashSet;
import java.util.List;
import java.util.Map;
import java.util.NoSuchElementException;
import java.util.Set;
import java.util.regex.Matcher;
import java.util.regex.Pattern;

/**
 * The document again, told as slowly and plainly as it can be, with the Java library: no sums are kept,
 * every LOADING is tried. RandomRunsTest compares TrainFerry with it.
 */
final class PlainFerry {
    private static final int[] ARM = {-3, -1, 1, 3};
    private static final Pattern TOKEN = Pattern.compile("([a-z]+)|([0-9]+)|(;)|([ \n]+)|(.)", Pattern.DOTALL);
    private static final List<String> CAUSES = List.of("storm", "ramp", "away", "other");

    private static final class Car {
        int number, length, weight, kind, home, waits;
        boolean seen;
        int[] by = new int[4];
        long owner, ferry;
    }

    private static final class Told {
        int shore, tick, value;
    }

    private static final class Deal {
        int tick, free;
        int[] rate = new int[4];
        String[] party = {"owner", "owner", "owner", "owner"};
    }

    private int deckLength = 100, limit = 200, reach = 5, chains = 100;
    private int tick, at, toward, due = -1, sea, sailed, fault = -1;
    private final boolean[] broken = new boolean[2];
    private final List<Car> cars = new ArrayList<>();
    private final List<Told> tides = new ArrayList<>();
    private final List<Deal> deals = new ArrayList<>();
    private final List<List<Car>> yards = new ArrayList<>();
    private final List<List<Car>> decks = new ArrayList<>();
    private final StringBuilder tape = new StringBuilder();
    private List<int[]> steps = List.of();

    PlainFerry() {
        for (int i = 0; i < 6; i++) {
            yards.add(new ArrayList<>());
        }
        for (int i = 0; i < 4; i++) {
            decks.add(new ArrayList<>());
        }
    }

    private static boolean in(int v, int a, int b) {
        return a <= v && v <= b;
    }

    private static int lengthOf(List<Car> row) {
        return row.stream().mapToInt(c -> c.length).sum();
    }

    private int onDeck() {
        return decks.stream().mapToInt(List::size).sum();
    }

    private int weights() {
        return decks.stream().mapToInt(d -> d.stream().mapToInt(c -> c.weight).sum()).sum();
    }

    private int list() {
        int sum = 0;
        for (int t = 0; t < 4; t++) {
            for (Car c : decks.get(t)) {
                sum += c.weight * ARM[t];
            }
        }
        return sum;
    }

    private int need() {
        int sum = 0;
        for (List<Car> d : decks) {
            for (Car c : d) {
                sum += c.kind == 1 || c.kind == 2 ? 2 * sea : sea;
            }
        }
        return sum;
    }

    private boolean barsBroken() {
        for (int t = 0; t < 4; t++) {
            for (Car c : decks.get(t)) {
                if (c.kind == 1 && (t == 1 || t == 2)) {
                    return true;
                }
                for (int u = 0; u < 4; u++) {
                    for (Car d : decks.get(u)) {
                        if (c.kind == 1 && d.kind == 2 && Math.abs(t - u) <= 1) {
                            return true;
                        }
                    }
                }
            }
        }
        return false;
    }

    private boolean open(int shore) {
        Told found = null;
        for (Told t : tides) {
            if (t.shore == shore && t.tick <= tick && (found == null || t.tick >= found.tick)) {
                found = t;
            }
        }
        if (found == null || broken[shore]) {
            return false;
        }
        int height = found.value - (at == shore ? weights() : 0) / 40;
        return Math.abs(height) <= reach;
    }

    private int dealNow() {
        int found = -1;
        for (int i = 0; i < deals.size(); i++) {
            int from = deals.get(i).tick;
            if (from <= tick && (found < 0 || from >= deals.get(found).tick)) {
                found = i;
            }
        }
        return found;
    }

    private int whereIs(Car car) {
        for (int i = 0; i < 6; i++) {
            if (yards.get(i).contains(car)) {
                return i;
            }
        }
        for (int i = 0; i < 4; i++) {
            if (decks.get(i).contains(car)) {
                return 6 + i;
            }
        }
        return -1;
    }

    private void go() {
        boolean[] open = {open(0), open(1)};
        int deal = dealNow();
        for (Car c : cars) {
            int where = whereIs(c);
            if (c.seen || where >= 6 || where / 3 != c.home) {
                continue;
            }
            int cause = sea == 5 ? 0 : !open[c.home] ? 1 : at != c.home ? 2 : 3;
            c.by[cause]++;
            c.waits++;
            if (deal >= 0 && c.waits > deals.get(deal).free) {
                int rate = deals.get(deal).rate[cause];
                String party = deals.get(deal).party[cause];
                int owner = party.equals("owner") ? rate : party.equals("both") ? rate / 2 : 0;
                c.owner += owner;
                c.ferry += rate - owner;
            }
        }
        tick++;
        if (at == 2 && tick == due) {
            at = toward;
            due = -1;
        }
    }

    boolean ship(int length, int limit, int reach, int chains) {
        if (!in(length, 40, 200) || !in(limit, 0, 2000) || !in(reach, 0, 50) || !in(chains, 0, 1000) || onDeck() > 0) {
            return false;
        }
        this.deckLength = length;
        this.limit = limit;
        this.reach = reach;
        this.chains = chains;
        return true;
    }

    int wagon(int shore, int track, int length, int weight, int kind) {
        if (!in(shore, 0, 1) || !in(track, 0, 2) || !in(length, 6, 26) || !in(weight, 10, 90) || !in(kind, 0, 3)) {
            return -1;
        }
        List<Car> row = yards.get(3 * shore + track);
        if (lengthOf(row) + length > 200 || cars.size() == 100) {
            return -1;
        }
        Car c = new Car();
        c.number = cars.size();
        c.length = length;
        c.weight = weight;
        c.kind = kind;
        c.home = shore;
        cars.add(c);
        row.add(c);
        return c.number;
    }

    boolean tide(int shore, int from, int v) {
        if (!in(shore, 0, 1) || !in(from, tick, 5000) || !in(v, -50, 50) || tides.size() == 200) {
            return false;
        }
        Told t = new Told();
        t.shore = shore;
        t.tick = from;
        t.value = v;
        tides.add(t);
        return true;
    }

    boolean sea(int v) {
        if (!in(v, 0, 5)) {
            return false;
        }
        sea = v;
        return true;
    }

    boolean ramp(int shore, boolean b) {
        if (!in(shore, 0, 1) || broken[shore] == b) {
            return false;
        }
        broken[shore] = b;
        return true;
    }

    int ticks(int n) {
        if (!in(n, 1, 200)) {
            return -1;
        }
        for (int i = 0; i < n; i++) {
            go();
        }
        return tick;
    }

    int feed(int a, int b, int c, int d, int e) {
        if (tape.length() > 280) {
            return -1;
        }
        for (int v : new int[] {a, b, c, d, e}) {
            tape.append((char) (v >>> 24)).append((char) (v >> 16 & 255)).append((char) (v >> 8 & 255)).append((char) (v & 255));
        }
        return tape.length();
    }

    int end(int n) {
        if (!in(n, 0, tape.length())) {
            return -1;
        }
        tape.setLength(n);
        return n;
    }

    int agree(int from) {
        if (!in(from, tick, 5000) || deals.size() == 20) {
            return -1;
        }
        Deal deal = new Deal();
        deal.tick = from;
        int[] wrong = read(tape.toString(), deal);
        tape.setLength(0);
        if (wrong != null) {
            fault = wrong[1];
            return -2 - wrong[0];
        }
        fault = -1;
        deals.add(deal);
        return deals.size() - 1;
    }

    /** Null, or the kind and the place of the first FAULT. */
    private static int[] read(String text, Deal deal) {
        List<String> tokens = new ArrayList<>();
        List<Integer> places = new ArrayList<>();
        Matcher m = TOKEN.matcher(text);
        while (m.find()) {
            if (m.group(4) == null) {
                tokens.add(m.group());
                places.add(m.start());
            }
        }
        tokens.add("");
        places.add(text.length());
        String number = "[0-9]{1,4}";
        int i = 0;
        for (int rules = 0; !tokens.get(i).isEmpty(); rules++) {
            String[] form;
            if (tokens.get(i).equals("free")) {
                form = new String[] {"free", number, ";"};
            } else if (tokens.get(i).equals("rate")) {
                form = new String[] {"rate", "storm|ramp|away|other", number, "owner|ferry|both", ";"};
            } else {
                return new int[] {1, places.get(i)};
            }
            if (rules == 20) {
                return new int[] {2, places.get(i)};
            }
            for (int k = 0; k < form.length; k++) {
                if (!tokens.get(i + k).matches(form[k])) {
                    return new int[] {1, places.get(i + k)};
                }
            }
            if (form.length == 3) {
                deal.free = Integer.parseInt(tokens.get(i + 1));
            } else {
                int cause = CAUSES.indexOf(tokens.get(i + 1));
                deal.rate[cause] = Integer.parseInt(tokens.get(i + 2));
                deal.party[cause] = tokens.get(i + 3);
            }
            i += form.length;
        }
        return null;
    }

    int place() {
        return fault;
    }

    /** Draws a WAGON on, if the rules of the DECK are kept behind it; else the REFUSAL, with nothing changed. */
    private int tryOn(List<Car> row, int d) {
        Car c = row.remove(0);
        List<Car> deck = decks.get(d);
        deck.add(c);
        int refusal = lengthOf(deck) > deckLength || deck.size() > 10 ? -4 : barsBroken() ? -5
            : Math.abs(list()) > limit ? -6 : 0;
        if (refusal != 0) {
            deck.remove(deck.size() - 1);
            row.add(0, c);
        }
        return refusal;
    }

    int on(int track, int d) {
        if (!in(d, 0, 3)) {
            return -1;
        }
        if (at == 2) {
            return -2;
        }
        if (!in(track, 0, 2) || yards.get(3 * at + track).isEmpty()) {
            return -1;
        }
        if (!open(at)) {
            return -3;
        }
        int refusal = tryOn(yards.get(3 * at + track), d);
        if (refusal != 0) {
            return refusal;
        }
        decks.get(d).get(decks.get(d).size() - 1).seen = true;
        go();
        return 10000 + list();
    }

    int off(int d, int track) {
        if (!in(d, 0, 3) || decks.get(d).isEmpty()) {
            return -1;
        }
        if (at == 2) {
            return -2;
        }
        if (!in(track, 0, 2)) {
            return -1;
        }
        if (!open(at)) {
            return -3;
        }
        List<Car> row = yards.get(3 * at + track);
        List<Car> deck = decks.get(d);
        Car c = deck.get(deck.size() - 1);
        if (lengthOf(row) + c.length > 200) {
            return -4;
        }
        deck.remove(c);
        if (Math.abs(list()) > limit) {
            deck.add(c);
            return -6;
        }
        row.add(c);
        go();
        return 10000 + list();
    }

    int sail() {
        if (at == 2) {
            return -1;
        }
        if (sea == 5) {
            return -2;
        }
        if (need() > chains) {
            return -3;
        }
        toward = 1 - at;
        at = 2;
        due = tick + 10 + 3 * sea;
        sailed++;
        return due;
    }

    private int bestWorst;
    private List<int[]> bestSteps;

    int loading(int a, int b, int c) {
        if (at == 2 || !in(a, 0, 6) || !in(b, 0, 6) || !in(c, 0, 6) || a + b + c > 6) {
            return -1;
        }
        int[] left = {a, b, c};
        for (int t = 0; t < 3; t++) {
            if (yards.get(3 * at + t).size() < left[t]) {
                return -1;
            }
        }
        bestWorst = Integer.MAX_VALUE;
        tryAll(left, a + b + c, 0, new ArrayList<>());
        if (bestWorst == Integer.MAX_VALUE) {
            return -1;
        }
        steps = bestSteps;
        return bestWorst;
    }

    private void tryAll(int[] left, int more, int worst, List<int[]> way) {
        if (more == 0) {
            if (worst < bestWorst) {
                bestWorst = worst;
                bestSteps = new ArrayList<>(way);
            }
            return;
        }
        for (int t = 0; t < 3; t++) {
            for (int d = 0; d < 4 && left[t] > 0; d++) {
                List<Car> row = yards.get(3 * at + t);
                if (tryOn(row, d) == 0) {
                    left[t]--;
                    way.add(new int[] {t, d});
                    tryAll(left, more - 1, Math.max(worst, Math.abs(list())), way);
                    way.remove(way.size() - 1);
                    left[t]++;
                    row.add(0, decks.get(d).remove(decks.get(d).size() - 1));
                }
            }
        }
    }

    int step(int i, int what) {
        return in(i, 0, steps.size() - 1) && in(what, 0, 1) ? steps.get(i)[what] : -1;
    }

    private int listOf(List<Integer> left) {
        int sum = 0;
        for (int t = 0; t < 4; t++) {
            for (int i = 0; i < left.get(t); i++) {
                sum += decks.get(t).get(i).weight * ARM[t];
            }
        }
        return Math.abs(sum);
    }

    private List<Integer> leftNow() {
        List<Integer> left = new ArrayList<>();
        decks.forEach(d -> left.add(d.size()));
        return left;
    }

    private static List<Integer> less(List<Integer> left, int t) {
        List<Integer> then = new ArrayList<>(left);
        then.set(t, left.get(t) - 1);
        return then;
    }

    private int least(List<Integer> left, Map<List<Integer>, Integer> known) {
        if (left.stream().allMatch(n -> n == 0)) {
            return 0;
        }
        Integer before = known.get(left);
        if (before != null) {
            return before;
        }
        int best = Integer.MAX_VALUE;
        for (int t = 0; t < 4; t++) {
            if (left.get(t) > 0) {
                List<Integer> then = less(left, t);
                int size = listOf(then);
                if (size <= limit) {
                    best = Math.min(best, Math.max(size, least(then, known)));
                }
            }
        }
        known.put(left, best);
        return best;
    }

    private boolean firstWay(List<Integer> left, int bound, List<Integer> way, Set<List<Integer>> dead) {
        if (left.stream().allMatch(n -> n == 0)) {
            return true;
        }
        if (dead.contains(left)) {
            return false;
        }
        for (int t = 0; t < 4; t++) {
            if (left.get(t) > 0) {
                List<Integer> then = less(left, t);
                way.add(t);
                if (listOf(then) <= bound && firstWay(then, bound, way, dead)) {
                    return true;
                }
                way.remove(way.size() - 1);
            }
        }
        dead.add(left);
        return false;
    }

    int emptying() {
        int worst = least(leftNow(), new HashMap<>());
        return worst == Integer.MAX_VALUE ? -1 : worst;
    }

    int emptied(int i) {
        int worst = emptying();
        List<Integer> way = new ArrayList<>();
        if (worst < 0 || !firstWay(leftNow(), worst, way, new HashSet<>())) {
            return -1;
        }
        return in(i, 0, way.size() - 1) ? way.get(i) : -1;
    }

    boolean isOpen(int shore) {
        if (!in(shore, 0, 1)) {
            throw new NoSuchElementException();
        }
        return open(shore);
    }

    int ferry(int what) {
        if (!in(what, 0, 5)) {
            throw new NoSuchElementException();
        }
        return new int[] {at, list(), weights(), need(), due, onDeck()}[what];
    }

    int deck(int track, int i) {
        return in(track, 0, 3) && in(i, 0, decks.get(track).size() - 1) ? decks.get(track).get(i).number : -1;
    }

    int yard(int shore, int track, int i) {
        if (!in(shore, 0, 1) || !in(track, 0, 2)) {
            return -1;
        }
        List<Car> row = yards.get(3 * shore + track);
        return in(i, 0, row.size() - 1) ? row.get(i).number : -1;
    }

    int of(int wagon, int what) {
        if (!in(wagon, 0, cars.size() - 1) || !in(what, 0, 9)) {
            return -1;
        }
        Car c = cars.get(wagon);
        int where = whereIs(c);
        long[] told = {where >= 6 ? 2 : where / 3, where >= 6 ? where - 6 : where % 3, c.kind,
            c.by[0], c.by[1], c.by[2], c.by[3], c.owner, c.ferry, c.home};
        return (int) told[what];
    }

    long count(int what) {
        if (!in(what, 0, 8)) {
            return -1;
        }
        long owners = cars.stream().mapToLong(c -> c.owner).sum();
        long ferry = cars.stream().mapToLong(c -> c.ferry).sum();
        return new long[] {tick, cars.size(), deals.size(), dealNow(), tape.length(), sea, owners, ferry, sailed}[what];
    }
}
