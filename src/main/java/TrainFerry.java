import java.util.Arrays;
import java.util.NoSuchElementException;

/** A ferry that takes railway wagons over the water; README.md tells how to use it. */
public final class TrainFerry {
    public static final int NONE = -1;

    private static final int SHORES = 2;
    private static final int AT_SEA = 2;
    private static final int ON_DECK = 2;
    private static final int YARD_TRACKS = 3;
    private static final int YARD_LENGTH = 200;
    /** The shortest WAGON is 6 long, so no more than this fit on a TRACK of a YARD. */
    private static final int YARD_ROW = 33;
    private static final int DECK_TRACKS = 4;
    private static final int DECK_ROW = 10;
    private static final int[] ARMS = {-3, -1, 1, 3};
    private static final int WEIGHT_OF_A_STEP = 40;

    private static final int MOST_WAGONS = 100;
    private static final int MOST_TIDES = 200;
    private static final int MOST_AGREEMENTS = 20;
    private static final int MOST_RULES = 20;
    private static final int MOST_BYTES = 300;
    private static final int BYTES_OF_A_FEED = 20;
    private static final int LAST_TICK_TOLD = 5000;
    private static final int MOST_LOADED = 6;

    private static final int SLEEPER = 1;
    private static final int DANGER = 2;
    private static final int KINDS = 4;

    private static final int STORM = 5;
    private static final int CAUSES = 4;
    private static final int BY_STORM = 0;
    private static final int BY_RAMP = 1;
    private static final int BY_AWAY = 2;
    private static final int BY_OTHER = 3;

    private static final int OWNER = 0;
    private static final int FERRY = 1;
    private static final int BOTH = 2;

    private static final int ALLOWED = 0;
    private static final int NOT_THERE = -1;
    private static final int SAILING = -2;
    private static final int RAMP_CLOSED = -3;
    private static final int NO_ROOM = -4;
    private static final int BARRED = -5;
    private static final int LISTING = -6;
    private static final int LIST_ZERO = 10000;

    /** Stands for a WORST that cannot be had: above every LIMIT. */
    private static final int NEVER = 1000000;

    private final Shore[] shores = {new Shore(), new Shore()};
    private final Deck deck = new Deck();
    private final Wagon[] wagons = new Wagon[MOST_WAGONS];
    private final AgreementReader reader = new AgreementReader();
    private final Agreement[] agreements = new Agreement[MOST_AGREEMENTS];
    private final Schedule agreed = new Schedule(MOST_AGREEMENTS);
    // The searches need large tables, so an object that never asks for one has none.
    private LoadingSearch loadings = null;
    private EmptyingSearch emptyings = null;
    private boolean emptyingKnown = false;
    private int wagonsCome = 0;
    private int now = 0;
    private int ferryAt = 0;
    private int boundFor = 0;
    private int arrival = NONE;
    private int sailings = 0;
    private int sea = 0;
    private int reach = 5;
    private int chains = 100;

    public TrainFerry() {
    }

    public boolean ship(int length, int limit, int reach, int chains) {
        if (!isWithin(length, 40, 200) || !isWithin(limit, 0, 2000)
                || !isWithin(reach, 0, 50) || !isWithin(chains, 0, 1000)) {
            return false;
        }
        if (deck.tally.allWagons > 0) {
            return false;
        }
        deck.tally.room = length;
        deck.tally.limit = limit;
        this.reach = reach;
        this.chains = chains;
        return true;
    }

    public int wagon(int shore, int track, int length, int weight, int kind) {
        Row row = yardRow(shore, track);
        if (row == null || wagonsCome >= MOST_WAGONS) {
            return NONE;
        }
        if (!isWithin(length, 6, 26) || !isWithin(weight, 10, 90) || !isWithin(kind, 0, KINDS - 1)) {
            return NONE;
        }
        if (!row.hasRoom(length, YARD_LENGTH)) {
            return NONE;
        }
        Wagon come = new Wagon(wagonsCome, shore, length, weight, kind);
        row.add(come);
        come.standAt(shore, track);
        wagons[wagonsCome] = come;
        wagonsCome++;
        return come.number;
    }

    public boolean tide(int shore, int tick, int v) {
        if (!isShore(shore) || !canBeTold(tick) || !isWithin(v, -50, 50)) {
            return false;
        }
        if (shores[0].tides.size + shores[1].tides.size >= MOST_TIDES) {
            return false;
        }
        shores[shore].tides.tell(tick, v);
        return true;
    }

    public boolean sea(int v) {
        if (!isWithin(v, 0, STORM)) {
            return false;
        }
        sea = v;
        return true;
    }

    public boolean ramp(int shore, boolean broken) {
        if (!isShore(shore) || shores[shore].broken == broken) {
            return false;
        }
        shores[shore].broken = broken;
        return true;
    }

    public int ticks(int n) {
        if (!isWithin(n, 1, 200)) {
            return NONE;
        }
        for (int i = 0; i < n; i++) {
            letTickGo();
        }
        return now;
    }

    public int feed(int a, int b, int c, int d, int e) {
        Tape tape = reader.tape;
        if (tape.size + BYTES_OF_A_FEED > MOST_BYTES) {
            return NONE;
        }
        tape.addBytesOf(a);
        tape.addBytesOf(b);
        tape.addBytesOf(c);
        tape.addBytesOf(d);
        tape.addBytesOf(e);
        return tape.size;
    }

    public int end(int n) {
        if (!isWithin(n, 0, reader.tape.size)) {
            return NONE;
        }
        reader.tape.size = n;
        return n;
    }

    public int agree(int tick) {
        int number = agreed.size;
        if (!canBeTold(tick) || number >= MOST_AGREEMENTS) {
            return NONE;
        }
        Agreement told = reader.read();
        reader.tape.size = 0;
        if (told == null) {
            return -2 - reader.faultKind;
        }
        agreements[number] = told;
        agreed.tell(tick, number);
        return number;
    }

    public int place() {
        return reader.faultPlace;
    }

    public int on(int track, int deck) {
        if (!isDeckTrack(deck)) {
            return NOT_THERE;
        }
        if (ferryAt == AT_SEA) {
            return SAILING;
        }
        Row from = yardRow(ferryAt, track);
        Wagon head = from == null ? null : from.wagonAt(0);
        if (head == null) {
            return NOT_THERE;
        }
        if (!rampIsOpen(ferryAt)) {
            return RAMP_CLOSED;
        }
        int refusal = this.deck.tally.refusalOf(head, deck);
        if (refusal != ALLOWED) {
            return refusal;
        }
        from.removeFirst();
        this.deck.add(head, deck);
        head.standAt(ON_DECK, deck);
        head.wasOnDeck = true;
        return answerDrawn();
    }

    public int off(int deck, int track) {
        Wagon last = this.deck.lastOf(deck);
        if (last == null) {
            return NOT_THERE;
        }
        if (ferryAt == AT_SEA) {
            return SAILING;
        }
        Row to = yardRow(ferryAt, track);
        if (to == null) {
            return NOT_THERE;
        }
        if (!rampIsOpen(ferryAt)) {
            return RAMP_CLOSED;
        }
        if (!to.hasRoom(last.length, YARD_LENGTH)) {
            return NO_ROOM;
        }
        if (Math.abs(this.deck.tally.list - last.weight * ARMS[deck]) > this.deck.tally.limit) {
            return LISTING;
        }
        this.deck.removeLastOf(deck);
        to.add(last);
        last.standAt(ferryAt, track);
        return answerDrawn();
    }

    public int sail() {
        if (ferryAt == AT_SEA) {
            return -1;
        }
        if (sea >= STORM) {
            return -2;
        }
        if (deck.tally.chainsNeeded(sea) > chains) {
            return -3;
        }
        boundFor = 1 - ferryAt;
        ferryAt = AT_SEA;
        arrival = now + 10 + 3 * sea;
        sailings++;
        return arrival;
    }

    public int loading(int a, int b, int c) {
        if (ferryAt == AT_SEA || !canBeLoaded(0, a) || !canBeLoaded(1, b) || !canBeLoaded(2, c)) {
            return NONE;
        }
        if (a + b + c > MOST_LOADED) {
            return NONE;
        }
        if (loadings == null) {
            loadings = new LoadingSearch();
        }
        loadings.prepare(deck);
        loadings.want(0, a, yardRow(ferryAt, 0));
        loadings.want(1, b, yardRow(ferryAt, 1));
        loadings.want(2, c, yardRow(ferryAt, 2));
        return loadings.findBest();
    }

    public int step(int i, int what) {
        if (loadings == null || !isWithin(i, 0, loadings.stepsFound - 1)) {
            return NONE;
        }
        switch (what) {
            case 0:
                return loadings.yardTracks[i];
            case 1:
                return loadings.deckTracks[i];
            default:
                return NONE;
        }
    }

    public int emptying() {
        return bestEmptying().worst;
    }

    public int emptied(int i) {
        EmptyingSearch best = bestEmptying();
        return isWithin(i, 0, best.stepsFound - 1) ? best.tracks[i] : NONE;
    }

    public boolean isOpen(int shore) throws NoSuchElementException {
        if (!isShore(shore)) {
            throw new NoSuchElementException("no such shore");
        }
        return rampIsOpen(shore);
    }

    public int ferry(int what) throws NoSuchElementException {
        switch (what) {
            case 0:
                return ferryAt;
            case 1:
                return deck.tally.list;
            case 2:
                return deck.tally.allWeights;
            case 3:
                return deck.tally.chainsNeeded(sea);
            case 4:
                return arrival;
            case 5:
                return deck.tally.allWagons;
            default:
                throw new NoSuchElementException("nothing of the ferry has that number");
        }
    }

    public int deck(int track, int i) {
        return isDeckTrack(track) ? numberOf(deck.rows[track].wagonAt(i)) : NONE;
    }

    public int yard(int shore, int track, int i) {
        Row row = yardRow(shore, track);
        return row == null ? NONE : numberOf(row.wagonAt(i));
    }

    public int of(int wagon, int what) {
        if (!isWithin(wagon, 0, wagonsCome - 1)) {
            return NONE;
        }
        Wagon asked = wagons[wagon];
        return asked == null ? NONE : asked.tell(what);
    }

    public long count(int what) {
        switch (what) {
            case 0:
                return now;
            case 1:
                return wagonsCome;
            case 2:
                return agreed.size;
            case 3:
                return agreed.valueIn(now, NONE);
            case 4:
                return reader.tape.size;
            case 5:
                return sea;
            case 6:
                return allPaidBy(OWNER);
            case 7:
                return allPaidBy(FERRY);
            case 8:
                return sailings;
            default:
                return NONE;
        }
    }

    private static boolean isWithin(int number, int least, int most) {
        return number >= least && number <= most;
    }

    private static boolean isShore(int shore) {
        return isWithin(shore, 0, SHORES - 1);
    }

    private static boolean isDeckTrack(int track) {
        return isWithin(track, 0, DECK_TRACKS - 1);
    }

    private static int numberOf(Wagon wagon) {
        return wagon == null ? NONE : wagon.number;
    }

    private boolean canBeTold(int tick) {
        return isWithin(tick, now, LAST_TICK_TOLD);
    }

    /** Null where there is no such TRACK. */
    private Row yardRow(int shore, int track) {
        if (!isShore(shore) || !isWithin(track, 0, YARD_TRACKS - 1)) {
            return null;
        }
        return shores[shore].rows[track];
    }

    private boolean canBeLoaded(int track, int wanted) {
        Row row = yardRow(ferryAt, track);
        return row != null && isWithin(wanted, 0, Math.min(MOST_LOADED, row.size));
    }

    private boolean rampIsOpen(int shore) {
        Schedule tides = shores[shore].tides;
        if (shores[shore].broken || !tides.hasValueIn(now)) {
            return false;
        }
        int load = ferryAt == shore ? deck.tally.allWeights : 0;
        int height = tides.valueIn(now, 0) - load / WEIGHT_OF_A_STEP;
        return isWithin(height, -reach, reach);
    }

    /** The TICK goes only here, behind the draw, as WAGONS wait with all as it is behind it. */
    private int answerDrawn() {
        emptyingKnown = false;
        letTickGo();
        return LIST_ZERO + deck.tally.list;
    }

    private void letTickGo() {
        int cause0 = causeAt(0);
        int cause1 = causeAt(1);
        Agreement inForce = agreementInForce();
        for (int i = 0; i < wagonsCome; i++) {
            Wagon wagon = wagons[i];
            if (wagon != null && !wagon.wasOnDeck) {
                wagon.waitATick(wagon.home == 0 ? cause0 : cause1, inForce);
            }
        }
        now++;
        if (ferryAt == AT_SEA && now >= arrival) {
            ferryAt = boundFor;
            arrival = NONE;
        }
    }

    private int causeAt(int shore) {
        if (sea == STORM) {
            return BY_STORM;
        }
        if (!rampIsOpen(shore)) {
            return BY_RAMP;
        }
        return ferryAt == shore ? BY_OTHER : BY_AWAY;
    }

    /** Null without one. */
    private Agreement agreementInForce() {
        int number = agreed.valueIn(now, NONE);
        return isWithin(number, 0, agreed.size - 1) ? agreements[number] : null;
    }

    private long allPaidBy(int party) {
        long sum = 0;
        for (int i = 0; i < wagonsCome; i++) {
            Wagon wagon = wagons[i];
            if (wagon != null) {
                sum += party == OWNER ? wagon.ownerPays : wagon.ferryPays;
            }
        }
        return sum;
    }

    private EmptyingSearch bestEmptying() {
        if (emptyings == null) {
            emptyings = new EmptyingSearch();
            emptyingKnown = false;
        }
        if (!emptyingKnown) {
            emptyings.findBest(deck);
            emptyingKnown = true;
        }
        return emptyings;
    }

    private static final class Wagon {
        final int number;
        final int home;
        final int length;
        final int weight;
        final int kind;
        final int[] waited = new int[CAUSES];
        int waitedInAll = 0;
        int ownerPays = 0;
        int ferryPays = 0;
        int standsAt = 0;
        int track = 0;
        boolean wasOnDeck = false;

        Wagon(int number, int home, int length, int weight, int kind) {
            this.number = number;
            this.home = home;
            this.length = length;
            this.weight = weight;
            this.kind = kind;
        }

        void standAt(int where, int track) {
            this.standsAt = where;
            this.track = track;
        }

        void waitATick(int cause, Agreement inForce) {
            waited[cause]++;
            waitedInAll++;
            if (inForce == null || waitedInAll <= inForce.free) {
                return;
            }
            int ownersShare = inForce.ownersShare(cause);
            ownerPays += ownersShare;
            ferryPays += inForce.rates[cause] - ownersShare;
        }

        int tell(int what) {
            switch (what) {
                case 0:
                    return standsAt;
                case 1:
                    return track;
                case 2:
                    return kind;
                case 3:
                case 4:
                case 5:
                case 6:
                    return waited[what - 3];
                case 7:
                    return ownerPays;
                case 8:
                    return ferryPays;
                case 9:
                    return home;
                default:
                    return NONE;
            }
        }
    }

    /** The WAGONS of one TRACK, the first at 0. */
    private static final class Row {
        final Wagon[] wagons;
        int size = 0;
        int length = 0;

        Row(int most) {
            wagons = new Wagon[Math.max(most, 0)];
        }

        /** Null where there is none. */
        Wagon wagonAt(int i) {
            return isWithin(i, 0, size - 1) ? wagons[i] : null;
        }

        boolean hasRoom(int more, int room) {
            return size < wagons.length && length + more <= room;
        }

        void add(Wagon wagon) {
            if (size < wagons.length) {
                wagons[size] = wagon;
                size++;
                length += wagon.length;
            }
        }

        void removeFirst() {
            Wagon first = wagonAt(0);
            if (first == null) {
                return;
            }
            length -= first.length;
            for (int i = 1; i < size; i++) {
                wagons[i - 1] = wagons[i];
            }
            size--;
            wagons[size] = null;
        }

        void removeLast() {
            Wagon last = wagonAt(size - 1);
            if (last == null) {
                return;
            }
            length -= last.length;
            size--;
            wagons[size] = null;
        }
    }

    private static final class Shore {
        final Row[] rows = {new Row(YARD_ROW), new Row(YARD_ROW), new Row(YARD_ROW)};
        final Schedule tides = new Schedule(MOST_TIDES);
        boolean broken = false;
    }

    private static final class Deck {
        final Row[] rows = {new Row(DECK_ROW), new Row(DECK_ROW), new Row(DECK_ROW), new Row(DECK_ROW)};
        final Tally tally = new Tally();

        void add(Wagon wagon, int track) {
            rows[track].add(wagon);
            tally.add(wagon, track, 1);
        }

        /** Null where there is no such TRACK, or no WAGON on it. */
        Wagon lastOf(int track) {
            return isDeckTrack(track) ? rows[track].wagonAt(rows[track].size - 1) : null;
        }

        void removeLastOf(int track) {
            Wagon last = lastOf(track);
            if (last != null) {
                rows[track].removeLast();
                tally.add(last, track, -1);
            }
        }
    }

    /** What the rules of drawing on look at, in numbers alone, so that a search can try draws on a copy. */
    private static final class Tally {
        final int[] wagonsOn = new int[DECK_TRACKS];
        final int[] lengthOn = new int[DECK_TRACKS];
        final int[] sleepersOn = new int[DECK_TRACKS];
        final int[] dangersOn = new int[DECK_TRACKS];
        int allWagons = 0;
        int allWeights = 0;
        int chainUnits = 0;
        int list = 0;
        int room = 100;
        int limit = 200;

        /** With times -1 the WAGON is taken away again. */
        void add(Wagon wagon, int track, int times) {
            boolean needsTwice = wagon.kind == SLEEPER || wagon.kind == DANGER;
            wagonsOn[track] += times;
            lengthOn[track] += times * wagon.length;
            sleepersOn[track] += wagon.kind == SLEEPER ? times : 0;
            dangersOn[track] += wagon.kind == DANGER ? times : 0;
            allWagons += times;
            allWeights += times * wagon.weight;
            chainUnits += needsTwice ? 2 * times : times;
            list += times * wagon.weight * ARMS[track];
        }

        int chainsNeeded(int sea) {
            return chainUnits * sea;
        }

        int listSizeWith(Wagon wagon, int track) {
            return Math.abs(list + wagon.weight * ARMS[track]);
        }

        int refusalOf(Wagon wagon, int track) {
            if (wagonsOn[track] >= DECK_ROW || lengthOn[track] + wagon.length > room) {
                return NO_ROOM;
            }
            if (isBarred(wagon.kind, track)) {
                return BARRED;
            }
            return listSizeWith(wagon, track) > limit ? LISTING : ALLOWED;
        }

        boolean isBarred(int kind, int track) {
            if (kind == SLEEPER) {
                return (track != 0 && track != DECK_TRACKS - 1) || anyNear(dangersOn, track);
            }
            return kind == DANGER && anyNear(sleepersOn, track);
        }

        boolean anyNear(int[] numbers, int track) {
            for (int i = 0; i < numbers.length; i++) {
                if (numbers[i] > 0 && i >= track - 1 && i <= track + 1) {
                    return true;
                }
            }
            return false;
        }

        void copyFrom(Tally other) {
            System.arraycopy(other.wagonsOn, 0, wagonsOn, 0, DECK_TRACKS);
            System.arraycopy(other.lengthOn, 0, lengthOn, 0, DECK_TRACKS);
            System.arraycopy(other.sleepersOn, 0, sleepersOn, 0, DECK_TRACKS);
            System.arraycopy(other.dangersOn, 0, dangersOn, 0, DECK_TRACKS);
            allWagons = other.allWagons;
            allWeights = other.allWeights;
            chainUnits = other.chainUnits;
            list = other.list;
            room = other.room;
            limit = other.limit;
        }
    }

    /**
     * Values told from a TICK on, sorted by TICK and for one TICK as told. Nothing is told for a TICK
     * that went and TICKS only grow, so the place of the one in force never goes back.
     */
    private static final class Schedule {
        final int[] fromTicks;
        final int[] values;
        int size = 0;
        int placeInForce = NONE;

        Schedule(int most) {
            fromTicks = new int[Math.max(most, 0)];
            values = new int[Math.max(most, 0)];
        }

        void tell(int tick, int value) {
            if (size >= fromTicks.length) {
                return;
            }
            int free = size;
            while (free > 0 && fromTicks[free - 1] > tick) {
                fromTicks[free] = fromTicks[free - 1];
                values[free] = values[free - 1];
                free--;
            }
            fromTicks[free] = tick;
            values[free] = value;
            size++;
        }

        boolean hasValueIn(int tick) {
            while (placeInForce + 1 < size && fromTicks[placeInForce + 1] <= tick) {
                placeInForce++;
            }
            return placeInForce >= 0;
        }

        int valueIn(int tick, int without) {
            return hasValueIn(tick) ? values[placeInForce] : without;
        }
    }

    private static final class Tape {
        final int[] bytes = new int[MOST_BYTES];
        int size = 0;

        void addBytesOf(int number) {
            for (int shift = 24; shift >= 0 && size < MOST_BYTES; shift -= 8) {
                bytes[size] = (number >>> shift) & 255;
                size++;
            }
        }
    }

    private static final class Agreement {
        final int[] rates = new int[CAUSES];
        final int[] parties = new int[CAUSES];
        int free = 0;

        int ownersShare(int cause) {
            switch (parties[cause]) {
                case OWNER:
                    return rates[cause];
                case BOTH:
                    return rates[cause] / 2;
                default:
                    return 0;
            }
        }
    }

    /** Reads the TEXT on its TAPE token by token; the first FAULT ends it. */
    private static final class AgreementReader {
        private static final int AT_END = 0;
        private static final int WORD = 1;
        private static final int NUMBER = 2;
        private static final int SIGN = 3;
        private static final int UNKNOWN = 4;
        private static final int MOST_DIGITS = 4;
        private static final int WRONG_TOKEN = 1;
        private static final int TOO_MANY_RULES = 2;

        final Tape tape = new Tape();
        int faultKind = 0;
        int faultPlace = NONE;
        private int token = AT_END;
        private int tokenStart = 0;
        private int tokenStop = 0;

        /** Null with a FAULT. */
        Agreement read() {
            tokenStop = 0;
            faultKind = 0;
            faultPlace = NONE;
            Agreement told = new Agreement();
            goOn();
            for (int rules = 0; rules <= MOST_RULES && token != AT_END; rules++) {
                if (!readRule(told, rules)) {
                    return null;
                }
            }
            return told;
        }

        private boolean readRule(Agreement told, int rulesBefore) {
            boolean isFree = isWord("free");
            if (!isFree && !isWord("rate")) {
                return fault(WRONG_TOKEN);
            }
            if (rulesBefore >= MOST_RULES) {
                return fault(TOO_MANY_RULES);
            }
            goOn();
            boolean wasRead = isFree ? readFree(told) : readRate(told);
            if (!wasRead) {
                return false;
            }
            if (token != SIGN) {
                return fault(WRONG_TOKEN);
            }
            goOn();
            return true;
        }

        private boolean readFree(Agreement told) {
            if (token != NUMBER) {
                return fault(WRONG_TOKEN);
            }
            told.free = numberRead();
            goOn();
            return true;
        }

        private boolean readRate(Agreement told) {
            int cause = causeRead();
            if (cause == NONE) {
                return fault(WRONG_TOKEN);
            }
            goOn();
            if (token != NUMBER) {
                return fault(WRONG_TOKEN);
            }
            int rate = numberRead();
            goOn();
            int party = partyRead();
            if (party == NONE) {
                return fault(WRONG_TOKEN);
            }
            goOn();
            told.rates[cause] = rate;
            told.parties[cause] = party;
            return true;
        }

        private int causeRead() {
            if (isWord("storm")) {
                return BY_STORM;
            }
            if (isWord("ramp")) {
                return BY_RAMP;
            }
            if (isWord("away")) {
                return BY_AWAY;
            }
            return isWord("other") ? BY_OTHER : NONE;
        }

        private int partyRead() {
            if (isWord("owner")) {
                return OWNER;
            }
            if (isWord("ferry")) {
                return FERRY;
            }
            return isWord("both") ? BOTH : NONE;
        }

        private int numberRead() {
            int number = 0;
            for (int i = tokenStart; i < tokenStop; i++) {
                number = 10 * number + byteAt(i) - '0';
            }
            return number;
        }

        private boolean fault(int kind) {
            faultKind = kind;
            faultPlace = tokenStart;
            return false;
        }

        private void goOn() {
            tokenStart = tokenStop;
            while (tokenStart < tape.size && isBlank(byteAt(tokenStart))) {
                tokenStart++;
            }
            tokenStop = tokenStart;
            int first = byteAt(tokenStart);
            if (first == NONE) {
                token = AT_END;
            } else if (isLetter(first)) {
                token = WORD;
                takeLetters();
            } else if (isDigit(first)) {
                takeDigits();
                token = tokenStop - tokenStart > MOST_DIGITS ? UNKNOWN : NUMBER;
            } else {
                token = first == ';' ? SIGN : UNKNOWN;
                tokenStop++;
            }
        }

        private void takeLetters() {
            while (tokenStop < tape.size && isLetter(byteAt(tokenStop))) {
                tokenStop++;
            }
        }

        private void takeDigits() {
            while (tokenStop < tape.size && isDigit(byteAt(tokenStop))) {
                tokenStop++;
            }
        }

        /** NONE behind the last one. */
        private int byteAt(int i) {
            return i >= 0 && i < tape.size && i < MOST_BYTES ? tape.bytes[i] : NONE;
        }

        private boolean isWord(String word) {
            if (token != WORD || tokenStop - tokenStart != word.length()) {
                return false;
            }
            for (int i = 0; i < word.length(); i++) {
                if (byteAt(tokenStart + i) != word.charAt(i)) {
                    return false;
                }
            }
            return true;
        }

        private static boolean isBlank(int sign) {
            return sign == 32 || sign == 10;
        }

        private static boolean isLetter(int sign) {
            return sign >= 'a' && sign <= 'z';
        }

        private static boolean isDigit(int sign) {
            return sign >= '0' && sign <= '9';
        }
    }

    /**
     * Finds the best LOADING. What may still be drawn, and how the ship then lists, hangs only on where
     * each WAGON drawn so far stands, not on the order in which they were drawn: so the least WORST from
     * each such state on is looked for once and kept.
     */
    private static final class LoadingSearch {
        /** The most there are: of two WAGONS from each TRACK (1 + 4 + 16) to the third. */
        private static final int MOST_STATES = 9261;

        int stepsFound = 0;
        final int[] yardTracks = new int[MOST_LOADED];
        final int[] deckTracks = new int[MOST_LOADED];
        private final Tally tally = new Tally();
        private final Row[] from = new Row[YARD_TRACKS];
        private final int[] wanted = new int[YARD_TRACKS];
        private final int[] drawn = new int[YARD_TRACKS];
        /** Where the WAGONS drawn from a TRACK stand, as a node of a tree with four branches at each node. */
        private final int[] nodes = new int[YARD_TRACKS];
        private final int[] treeSizes = new int[YARD_TRACKS];
        /** One more than the least WORST from a state on; 0 if not looked for yet. */
        private final int[] leastAndOne = new int[MOST_STATES];

        void prepare(Deck deck) {
            tally.copyFrom(deck.tally);
            Arrays.fill(leastAndOne, 0);
        }

        void want(int track, int number, Row row) {
            from[track] = row;
            wanted[track] = number;
            drawn[track] = 0;
            nodes[track] = 0;
            treeSizes[track] = 1;
            for (int i = 0; i < number && i < MOST_LOADED; i++) {
                treeSizes[track] = 1 + DECK_TRACKS * treeSizes[track];
            }
        }

        /** The steps of the latest LOADING found stay as they are, if there is none now. */
        int findBest() {
            int worst = leastWorst(0);
            if (worst >= NEVER) {
                return NONE;
            }
            stepsFound = Math.min(allWanted(), MOST_LOADED);
            for (int i = 0; i < stepsFound; i++) {
                takeFirstStepWithin(worst, i);
            }
            return worst;
        }

        private int allWanted() {
            return wanted[0] + wanted[1] + wanted[2];
        }

        private int leastWorst(int depth) {
            int state = stateNow();
            if (depth >= MOST_LOADED || depth >= allWanted() || state >= MOST_STATES) {
                return 0;
            }
            if (leastAndOne[state] == 0) {
                int least = NEVER;
                for (int track = 0; track < YARD_TRACKS; track++) {
                    least = leastDrawing(track, least, depth);
                }
                leastAndOne[state] = least + 1;
            }
            return leastAndOne[state] - 1;
        }

        private int leastDrawing(int track, int leastSoFar, int depth) {
            Wagon head = headOf(track);
            if (head == null) {
                return leastSoFar;
            }
            int least = leastSoFar;
            for (int to = 0; to < DECK_TRACKS; to++) {
                int size = tally.listSizeWith(head, to);
                if (size < least && tally.refusalOf(head, to) == ALLOWED) {
                    draw(track, head, to);
                    least = Math.min(least, Math.max(size, leastWorst(depth + 1)));
                    drawBack(track, head, to);
                }
            }
            return least;
        }

        private void takeFirstStepWithin(int worst, int i) {
            for (int track = 0; track < YARD_TRACKS; track++) {
                Wagon head = headOf(track);
                for (int to = 0; head != null && to < DECK_TRACKS; to++) {
                    if (tally.listSizeWith(head, to) > worst || tally.refusalOf(head, to) != ALLOWED) {
                        continue;
                    }
                    draw(track, head, to);
                    if (leastWorst(i + 1) <= worst) {
                        yardTracks[i] = track;
                        deckTracks[i] = to;
                        return;
                    }
                    drawBack(track, head, to);
                }
            }
        }

        /** Null if no more are wanted from that TRACK. */
        private Wagon headOf(int track) {
            Row row = from[track];
            return row == null || drawn[track] >= wanted[track] ? null : row.wagonAt(drawn[track]);
        }

        private void draw(int track, Wagon head, int to) {
            tally.add(head, to, 1);
            drawn[track]++;
            nodes[track] = DECK_TRACKS * nodes[track] + 1 + to;
        }

        private void drawBack(int track, Wagon head, int to) {
            tally.add(head, to, -1);
            drawn[track]--;
            nodes[track] = (nodes[track] - 1 - to) / DECK_TRACKS;
        }

        private int stateNow() {
            return (nodes[0] * treeSizes[1] + nodes[1]) * treeSizes[2] + nodes[2];
        }
    }

    /** Finds the best EMPTYING: a state is how many WAGONS are left on each TRACK of the DECK. */
    private static final class EmptyingSearch {
        private static final int NUMBERS = DECK_ROW + 1;
        private static final int MOST_STATES = 14641;
        private static final int[] STRIDES = {1331, 121, 11, 1};

        int worst = NONE;
        int stepsFound = 0;
        final int[] tracks = new int[DECK_TRACKS * DECK_ROW];
        private int limit = 0;
        private final int[] left = new int[DECK_TRACKS];
        /** What the first so many WAGONS of each TRACK add to the LIST. */
        private final int[] lists = new int[DECK_TRACKS * NUMBERS];
        private final int[] least = new int[MOST_STATES];

        void findBest(Deck deck) {
            limit = deck.tally.limit;
            for (int track = 0; track < DECK_TRACKS; track++) {
                sumLists(track, deck.rows[track]);
            }
            lookAtAllStates(deck.rows[0].size, deck.rows[1].size, deck.rows[2].size, deck.rows[3].size);
            int found = least[stateNow()];
            worst = found >= NEVER ? NONE : found;
            stepsFound = found >= NEVER ? 0 : deck.tally.allWagons;
            for (int i = 0; i < stepsFound && i < tracks.length; i++) {
                tracks[i] = firstTrackWithin(found);
                left[tracks[i]]--;
            }
        }

        private void sumLists(int track, Row row) {
            int sum = 0;
            lists[track * NUMBERS] = 0;
            for (int i = 0; i < row.size && i < DECK_ROW; i++) {
                Wagon wagon = row.wagonAt(i);
                sum += wagon == null ? 0 : wagon.weight * ARMS[track];
                lists[track * NUMBERS + i + 1] = sum;
            }
        }

        /** States with fewer WAGONS come first, as the others build on them; the last one is the DECK as it is. */
        private void lookAtAllStates(int most0, int most1, int most2, int most3) {
            for (int left0 = 0; left0 <= most0; left0++) {
                left[0] = left0;
                for (int left1 = 0; left1 <= most1; left1++) {
                    left[1] = left1;
                    for (int left2 = 0; left2 <= most2; left2++) {
                        left[2] = left2;
                        for (int left3 = 0; left3 <= most3; left3++) {
                            left[3] = left3;
                            least[stateNow()] = leastWorst();
                        }
                    }
                }
            }
        }

        private int leastWorst() {
            int state = stateNow();
            if (state == 0) {
                return 0;
            }
            int list = listNow();
            int found = NEVER;
            for (int track = 0; track < DECK_TRACKS; track++) {
                found = Math.min(found, worstDrawing(track, state, list));
            }
            return found;
        }

        private int worstDrawing(int track, int state, int list) {
            if (left[track] <= 0) {
                return NEVER;
            }
            int at = track * NUMBERS + left[track];
            int size = Math.abs(list - lists[at] + lists[at - 1]);
            return size > limit ? NEVER : Math.max(size, least[state - STRIDES[track]]);
        }

        private int firstTrackWithin(int bound) {
            int state = stateNow();
            int list = listNow();
            for (int track = 0; track < DECK_TRACKS - 1; track++) {
                if (worstDrawing(track, state, list) <= bound) {
                    return track;
                }
            }
            return DECK_TRACKS - 1;
        }

        private int listNow() {
            int list = 0;
            for (int track = 0; track < DECK_TRACKS; track++) {
                list += lists[track * NUMBERS + left[track]];
            }
            return list;
        }

        private int stateNow() {
            int state = 0;
            for (int track = 0; track < DECK_TRACKS; track++) {
                state += left[track] * STRIDES[track];
            }
            return state;
        }
    }
}
