import java.util.Arrays;

/** Barges drawn by kites along a river of reaches, by six layers of wind. */
public final class KiteBarges {
    public static final int NONE = -1, UNKNOWN = -2, OUTSIDE = -3, NOT = -4, FULL = -5;

    private static final int REACHES = 8, LAYERS = 6, HOURS = 24, BARGES = 4, KEPT = 2;
    private static final int MOST_YARDS = 20;
    // A place is a reach times MOST_YARDS and a yard; behind the last of all places one is there.
    private static final int THERE = REACHES * MOST_YARDS;
    private static final int PLACES = THERE + 1;
    private static final int STATES = PLACES * LAYERS;
    // The words of a text; the first three are the kinds of a reach, too.
    private static final int OPEN = 0, TREES = 1, LOCK = 2, DRY = 3, WIND = 4, BARGE = 5, SOLD = 6, STILL = 7;
    private static final int PLAIN = 0, PAIRED = 1, SLOW = 2, SAIL = 3, TORN = 4;
    private static final int MOST_ODDS_HOURS = 8, MOST_BLIND_HOURS = 4;

    private final River river;
    private final Text text;
    private final Fleet fleet;
    private final Fleet[] kept;
    private final boolean[] isKept;
    private final Planner planner;
    private final Lulls lulls;

    public KiteBarges() {
        River told = new River();
        river = told;
        text = new Text();
        fleet = new Fleet();
        kept = new Fleet[] {new Fleet(), new Fleet()};
        isKept = new boolean[KEPT];
        planner = new Planner(told);
        lulls = new Lulls(told);
    }

    // ---- what is told

    public int write(long bytes, int n) {
        if (n < 1 || n > 8) {
            return OUTSIDE;
        }
        return text.append(bytes, n) ? text.length : FULL;
    }

    public int erase() {
        int had = text.length;
        text.length = 0;
        return had;
    }

    public int fault() {
        return text.read(river, false);
    }

    public int river() {
        if (text.read(river, false) != NONE) {
            return NOT;
        }
        text.read(river, true);
        text.length = 0;
        fleet.begin(river.begin());
        for (int k = 0; k < KEPT; k++) {
            isKept[k] = false;
        }
        planner.forget();
        return text.lines;
    }

    public int reach(int reach, int what) {
        if (!river.hasReach(reach)) {
            return UNKNOWN;
        }
        switch (what) {
            case 0: return river.way[reach];
            case 1: return river.yardsLong[reach];
            case 2: return river.kind[reach];
            default: return OUTSIDE;
        }
    }

    public int wind(int layer, int hour, int what) {
        if (!isLayer(layer) || !isHour(hour)) {
            return UNKNOWN;
        }
        switch (what) {
            case 0: return river.windWay[layer * HOURS + hour];
            case 1: return river.strength[layer * HOURS + hour];
            default: return OUTSIDE;
        }
    }

    public int barge(int barge, int what) {
        if (!river.hasBarge(barge)) {
            return UNKNOWN;
        }
        switch (what) {
            case 0: return river.weight[barge];
            case 1: return river.cordOf(barge);
            case 2: return river.kite[barge];
            case 3: return river.freight[barge];
            default: return OUTSIDE;
        }
    }

    public int as(int barge, int kind) {
        if (!river.hasBarge(barge)) {
            return UNKNOWN;
        }
        if (kind < 0 || kind > TORN) {
            return OUTSIDE;
        }
        int kite = river.kite[barge];
        boolean isSuch = kind == 0 || kite == kind || kind == SAIL && kite == TORN;
        return isSuch ? 100 * River.pulled(kite, 0, 1) + River.pulled(kite, 2, 1) : NOT;
    }

    // ---- hour by hour

    public int yards(int barge, int reach, int layer, int hour) {
        if (!river.hasBarge(barge) || !river.hasReach(reach) || !isLayer(layer) || !isHour(hour)) {
            return UNKNOWN;
        }
        return river.stepOf(barge, reach, layer, hour);
    }

    public int cord(int barge, int layer) {
        if (!river.hasBarge(barge)) {
            return UNKNOWN;
        }
        if (!isLayer(layer) || Math.abs(layer - fleet.lastLayer[barge]) > river.cordOf(barge)) {
            return OUTSIDE;
        }
        if (fleet.place[barge] == THERE || fleet.hours >= HOURS) {
            return NOT;
        }
        return fleet.change(barge, layer);
    }

    public int go(int n) {
        if (n < 1 || n > HOURS) {
            return OUTSIDE;
        }
        int last = Math.min(HOURS, fleet.hours + n);
        for (int hour = fleet.hours; hour < last; hour++) {
            fleet.passHour(river, hour);
        }
        return fleet.hours;
    }

    public int at(int barge, int what) {
        if (!river.hasBarge(barge)) {
            return UNKNOWN;
        }
        int place = fleet.place[barge];
        switch (what) {
            case 0: return place == THERE ? NONE : place / MOST_YARDS;
            case 1: return place % MOST_YARDS;
            case 2: return fleet.layer[barge];
            case 3: return fleet.run[barge];
            case 4: return fleet.stayed[barge];
            default: return OUTSIDE;
        }
    }

    public int knots(int barge) {
        if (!river.hasBarge(barge)) {
            return UNKNOWN;
        }
        int bits = 0;
        for (int other = 0; other < BARGES; other++) {
            if (other != barge && river.told[other] && fleet.areKnotted(barge, other)) {
                bits |= 1 << other;
            }
        }
        return bits;
    }

    public int keep(int k) {
        if (k < 0 || k >= KEPT) {
            return UNKNOWN;
        }
        kept[k].copyFrom(fleet);
        isKept[k] = true;
        return fleet.hours;
    }

    public int back(int k) {
        if (k < 0 || k >= KEPT) {
            return UNKNOWN;
        }
        if (!isKept[k]) {
            return NOT;
        }
        fleet.copyFrom(kept[k]);
        return fleet.hours;
    }

    // ---- plans

    public int soonest(int barge, int hour, int i) {
        if (!river.hasBarge(barge) || !isHour(hour)) {
            return UNKNOWN;
        }
        if (i < -2) {
            return OUTSIDE;
        }
        return planner.answerOf(planner.soonestOf(barge, hour), i);
    }

    public int clear(int barge, int other, int i) {
        if (!river.hasBarge(barge) || !river.hasBarge(other)) {
            return UNKNOWN;
        }
        if (barge == other || i < -2) {
            return OUTSIDE;
        }
        int ahead = planner.soonestOf(other, 0);
        if (planner.hoursOf[ahead] == NONE) {
            return NOT;
        }
        return planner.answerOf(planner.clearOf(barge, other, ahead), i);
    }

    // ---- odds

    public long odds(int barge, int n, int p, int part) {
        int refused = oddsRefused(barge, n, p, part, MOST_ODDS_HOURS);
        if (refused != 0) {
            return refused;
        }
        int plan = planner.soonestOf(barge, 0);
        if (planner.hoursOf[plan] == NONE) {
            return NOT;
        }
        lulls.start(n, p);
        for (int hour = 0; hour < n; hour++) {
            lulls.branch(barge, hour, planner.layerKept(plan, hour));
        }
        return lowestTerms(lulls.thereAfter(n), n, part);
    }

    public long sight(int barge, int n, int p, int part) {
        int refused = oddsRefused(barge, n, p, part, MOST_ODDS_HOURS);
        return refused != 0 ? refused : lowestTerms(lulls.bestSeeing(barge, n, p), n, part);
    }

    public long blind(int barge, int n, int p, int part) {
        int refused = oddsRefused(barge, n, p, part, MOST_BLIND_HOURS);
        return refused != 0 ? refused : lowestTerms(lulls.bestBlind(barge, n, p), n, part);
    }

    public long worth(int barge, int n, int p, int part) {
        int refused = oddsRefused(barge, n, p, part, MOST_BLIND_HOURS);
        if (refused != 0) {
            return refused;
        }
        return lowestTerms(lulls.bestSeeing(barge, n, p) - lulls.bestBlind(barge, n, p), n, part);
    }

    // ---- lines that are found, books

    public int found(int reach, int layer) {
        if (!river.hasReach(reach) || !isLayer(layer)) {
            return UNKNOWN;
        }
        int bits = 0;
        for (int barge = 0; barge < BARGES; barge++) {
            if (river.told[barge]
                    && planner.hourIn(barge, planner.soonestOf(barge, 0), reach, layer) != NONE) {
                bits |= 1 << barge;
            }
        }
        return bits;
    }

    public int first(int barge, int reach, int layer) {
        if (!river.hasBarge(barge) || !river.hasReach(reach) || !isLayer(layer)) {
            return UNKNOWN;
        }
        return planner.hourIn(barge, planner.soonestOf(barge, 0), reach, layer);
    }

    public int books(int barge, int what) {
        if (!river.hasBarge(barge)) {
            return UNKNOWN;
        }
        if (what < 0 || what > 1) {
            return OUTSIDE;
        }
        if (river.reaches == 0) {
            return NOT;
        }
        int often = passages(barge);
        return what == 0 ? often : often * river.freight[barge];
    }

    public int count(int what) {
        switch (what) {
            case 0: return river.reaches;
            case 1: return river.toldBits();
            case 2: return river.still;
            case 3: return fleet.hours;
            case 4: return text.length;
            case 5: return river.wholeLength();
            default: return OUTSIDE;
        }
    }

    // ---- what the calls share

    private static boolean isLayer(int layer) {
        return layer >= 0 && layer < LAYERS;
    }

    private static boolean isHour(int hour) {
        return hour >= 0 && hour < HOURS;
    }

    private static boolean isKnot(int place, int layer, int otherPlace, int otherLayer) {
        return place != THERE && otherPlace != THERE && layer == otherLayer
                && place / MOST_YARDS == otherPlace / MOST_YARDS && Math.abs(place - otherPlace) < 2;
    }

    /** UNKNOWN or OUTSIDE, if a call for odds is refused by its arguments; 0, if it is not. */
    private int oddsRefused(int barge, int n, int p, int part, int mostHours) {
        if (!river.hasBarge(barge)) {
            return UNKNOWN;
        }
        boolean isFit = n >= 0 && n <= mostHours && p >= 0 && p <= 10 && (part == 0 || part == 1);
        return isFit ? 0 : OUTSIDE;
    }

    /** A part of above by 10 to the n-th; 2 and 5 are all that the two can share. */
    private static long lowestTerms(long above, int n, int part) {
        long top = above;
        long below = 1;
        for (int i = 0; i < n; i++) {
            below *= 10;
        }
        for (int i = 0; i < n; i++) {
            if (top % 2 == 0) {
                top /= 2;
                below /= 2;
            }
            if (top % 5 == 0) {
                top /= 5;
                below /= 5;
            }
        }
        return part == 0 ? top : below;
    }

    private int passages(int barge) {
        int often = 0;
        int hour = 0;
        for (int i = 0; i < HOURS && hour < HOURS; i++) {
            int hours = planner.hoursOf[planner.soonestOf(barge, hour)];
            if (hours == NONE) {
                break;
            }
            often++;
            hour += hours;
        }
        return often;
    }

    /** What is told: the reaches, the winds, the barges; and how far wind draws a barge. */
    private static final class River {
        // By how many eighths the wind's way is turned from that of the reach.
        private static final int[] TIMES = {10, 7, 0, 0, 0, 0, 0, 7};
        private static final int[] SAIL_TIMES = {10, 7, 5, 0, 0, 0, 5, 7};

        int reaches = 0;
        int still = 2;
        final int[] way = new int[REACHES];
        final int[] yardsLong = new int[REACHES];
        final int[] kind = new int[REACHES];
        final int[] windWay = new int[LAYERS * HOURS];
        final int[] strength = new int[LAYERS * HOURS];
        final boolean[] told = new boolean[BARGES];
        final int[] weight = new int[BARGES];
        final int[] cordLong = new int[BARGES];
        final int[] kite = new int[BARGES];
        final int[] freight = new int[BARGES];

        boolean hasReach(int reach) {
            return reach >= 0 && reach < reaches;
        }

        boolean hasBarge(int barge) {
            return barge >= 0 && barge < BARGES && told[barge];
        }

        int cordOf(int barge) {
            return kite[barge] == SLOW ? 1 : cordLong[barge];
        }

        /** The place at which all begin: without reaches one is there at once. */
        int begin() {
            return reaches == 0 ? THERE : 0;
        }

        int toldBits() {
            int bits = 0;
            for (int barge = 0; barge < BARGES; barge++) {
                bits |= told[barge] ? 1 << barge : 0;
            }
            return bits;
        }

        int wholeLength() {
            int yards = 0;
            for (int reach = 0; reach < reaches; reach++) {
                yards += yardsLong[reach];
            }
            return yards;
        }

        /** Does a line that was read without a fault. */
        void tell(int word, int[] numbers) {
            switch (word) {
                case DRY:
                    reaches = 0;
                    break;
                case WIND:
                    tellWind(numbers);
                    break;
                case BARGE:
                    tellBarge(numbers);
                    break;
                case SOLD:
                    told[numbers[0]] = false;
                    break;
                case STILL:
                    still = numbers[0];
                    break;
                default:
                    addReach(word, numbers[0], numbers[1]);
                    break;
            }
        }

        private void addReach(int newKind, int newWay, int yards) {
            if (reaches >= REACHES) {
                return;
            }
            kind[reaches] = newKind;
            way[reaches] = newWay;
            yardsLong[reaches] = yards;
            reaches++;
        }

        private void tellWind(int[] numbers) {
            for (int hour = numbers[1]; hour <= numbers[2]; hour++) {
                windWay[numbers[0] * HOURS + hour] = numbers[3];
                strength[numbers[0] * HOURS + hour] = numbers[4];
            }
        }

        private void tellBarge(int[] numbers) {
            int barge = numbers[0];
            told[barge] = true;
            weight[barge] = numbers[1];
            cordLong[barge] = numbers[2];
            kite[barge] = numbers[3];
            freight[barge] = numbers[4];
        }

        static int pulled(int kite, int turn, int strength) {
            boolean isSail = kite == SAIL || kite == TORN;
            int pull = strength * (isSail ? SAIL_TIMES[turn & 7] : TIMES[turn & 7]);
            if (kite == PAIRED) {
                return 2 * pull;
            }
            return kite == TORN ? pull / 2 : pull;
        }

        /** The yards that a barge would go in an hour, its reach's end aside. */
        int stepOf(int barge, int reach, int layer, int hour) {
            if (kind[reach] == TREES && layer > 1 || weight[barge] < 1) {
                return 0;
            }
            int wind = layer * HOURS + hour;
            return pulled(kite[barge], windWay[wind] - way[reach], strength[wind]) / weight[barge];
        }

        /** Where a barge is behind an hour without a lull. */
        int moved(int barge, int place, int layer, int hour) {
            if (place >= THERE) {
                return THERE;
            }
            int reach = place / MOST_YARDS;
            int yard = place % MOST_YARDS + stepOf(barge, reach, layer, hour);
            if (yard < yardsLong[reach]) {
                return reach * MOST_YARDS + yard;
            }
            // The wind at a lock is that of layer 0.
            if (kind[reach] == LOCK && strength[hour] > still) {
                return reach * MOST_YARDS + yardsLong[reach] - 1;
            }
            return reach + 1 < reaches ? (reach + 1) * MOST_YARDS : THERE;
        }
    }

    /** The text, and the reading of it, token by token. */
    private static final class Text {
        private static final int MOST_BYTES = 200, MOST_LINES = 8, MOST_NUMBERS = 5, MOST_DIGITS = 2;
        private static final int LETTERS = 0, DIGITS = 1, OTHER = 2, END = 3;
        private static final int NO_WORD = -1;
        private static final char BLANK = ' ', BETWEEN_LINES = ';';

        int length = 0;
        int lines = 0;
        private final int[] bytes = new int[MOST_BYTES];
        // The token that was read last: its kind, its first byte, the byte behind it.
        private int tokenKind = END;
        private int place = 0;
        private int end = 0;
        // The line that was read last: its word, its numbers (a kite is one).
        private int word = NO_WORD;
        private int filled = 0;
        private final int[] numbers = new int[MOST_NUMBERS];
        // How many reaches there will be behind the lines so far.
        private int reaches = 0;

        /** Adds n bytes of a long; false, and nothing is added, if there is no room. */
        boolean append(long more, int n) {
            if (length + n > MOST_BYTES) {
                return false;
            }
            for (int i = 0; i < n; i++) {
                bytes[length + i] = (int) (more >> 8 * i & 255);
            }
            length += n;
            return true;
        }

        /** The place of the first fault, or NONE; the lines ahead of it are done, if told so. */
        int read(River river, boolean doing) {
            end = 0;
            lines = 0;
            reaches = river.reaches;
            for (int line = 0; line < MOST_LINES; line++) {
                if (!readLine()) {
                    return place;
                }
                lines++;
                if (doing) {
                    river.tell(word, numbers);
                }
                readToken();
                if (tokenKind == END) {
                    return NONE;
                }
                if (bytes[place] != BETWEEN_LINES) {
                    return place;
                }
            }
            return place;
        }

        private boolean readLine() {
            readToken();
            filled = 0;
            word = wordOfLine();
            switch (word) {
                case OPEN:
                case TREES:
                case LOCK:
                    reaches++;
                    return reaches <= REACHES && readNumber(0, 7) && readNumber(1, MOST_YARDS);
                case DRY:
                    reaches = 0;
                    return true;
                case WIND:
                    return readNumber(0, LAYERS - 1) && readNumber(0, HOURS - 1)
                            && readNumber(numbers[1], HOURS - 1) && readNumber(0, 7) && readNumber(0, 9);
                case BARGE:
                    return readNumber(0, BARGES - 1) && readNumber(1, 60) && readNumber(1, 5)
                            && readKite() && readNumber(0, 99);
                case SOLD:
                    return readNumber(0, BARGES - 1);
                case STILL:
                    return readNumber(0, 9);
                default:
                    return false;
            }
        }

        private int wordOfLine() {
            if (tokenIs("open")) {
                return OPEN;
            }
            if (tokenIs("trees")) {
                return TREES;
            }
            if (tokenIs("lock")) {
                return LOCK;
            }
            if (tokenIs("dry")) {
                return DRY;
            }
            if (tokenIs("wind")) {
                return WIND;
            }
            if (tokenIs("barge")) {
                return BARGE;
            }
            if (tokenIs("sold")) {
                return SOLD;
            }
            return tokenIs("still") ? STILL : NO_WORD;
        }

        private int kiteOfToken() {
            if (tokenIs("plain")) {
                return PLAIN;
            }
            if (tokenIs("paired")) {
                return PAIRED;
            }
            if (tokenIs("slow")) {
                return SLOW;
            }
            if (tokenIs("sail")) {
                return SAIL;
            }
            return tokenIs("torn") ? TORN : NO_WORD;
        }

        private boolean readKite() {
            readToken();
            int kite = kiteOfToken();
            return kite != NO_WORD && addNumber(kite);
        }

        private boolean readNumber(int least, int most) {
            readToken();
            if (tokenKind != DIGITS || end - place > MOST_DIGITS) {
                return false;
            }
            int number = 0;
            for (int i = place; i < end; i++) {
                number = number * 10 + bytes[i] - '0';
            }
            return number >= least && number <= most && addNumber(number);
        }

        private boolean addNumber(int number) {
            if (filled >= MOST_NUMBERS) {
                return false;
            }
            numbers[filled++] = number;
            return true;
        }

        /** Goes to the next token, over the blanks ahead of it. */
        private void readToken() {
            place = end;
            while (place < length && bytes[place] == BLANK) {
                place++;
            }
            tokenKind = kindAt(place);
            end = place;
            while (end < length && kindAt(end) == tokenKind) {
                end++;
                if (tokenKind == OTHER) {
                    break;
                }
            }
        }

        private int kindAt(int i) {
            if (i >= length) {
                return END;
            }
            if (bytes[i] >= 'a' && bytes[i] <= 'z') {
                return LETTERS;
            }
            return bytes[i] >= '0' && bytes[i] <= '9' ? DIGITS : OTHER;
        }

        private boolean tokenIs(String wanted) {
            if (end - place != wanted.length()) {
                return false;
            }
            for (int i = place; i < end; i++) {
                if (bytes[i] != wanted.charAt(i - place)) {
                    return false;
                }
            }
            return true;
        }
    }

    /** Where the barges are, and how they came there. */
    private static final class Fleet {
        int hours = 0;
        final int[] place = new int[BARGES];
        final int[] layer = new int[BARGES];
        // The layer behind the last hour: a cord reaches so far from that one.
        final int[] lastLayer = new int[BARGES];
        final int[] run = new int[BARGES];
        final int[] stayed = new int[BARGES];

        void begin(int start) {
            hours = 0;
            Arrays.fill(place, start);
            Arrays.fill(layer, 0);
            Arrays.fill(lastLayer, 0);
            Arrays.fill(run, 0);
            Arrays.fill(stayed, 0);
        }

        void copyFrom(Fleet other) {
            hours = other.hours;
            System.arraycopy(other.place, 0, place, 0, BARGES);
            System.arraycopy(other.layer, 0, layer, 0, BARGES);
            System.arraycopy(other.lastLayer, 0, lastLayer, 0, BARGES);
            System.arraycopy(other.run, 0, run, 0, BARGES);
            System.arraycopy(other.stayed, 0, stayed, 0, BARGES);
        }

        int change(int barge, int newLayer) {
            int by = Math.abs(newLayer - layer[barge]);
            layer[barge] = newLayer;
            run[barge] += by;
            return by;
        }

        void passHour(River river, int hour) {
            for (int barge = 0; barge < BARGES; barge++) {
                if (river.told[barge] && place[barge] != THERE) {
                    int next = river.moved(barge, place[barge], layer[barge], hour);
                    stayed[barge] += next == place[barge] ? 1 : 0;
                    place[barge] = next;
                }
                lastLayer[barge] = layer[barge];
            }
            hours = hour + 1;
        }

        boolean areKnotted(int barge, int other) {
            return isKnot(place[barge], layer[barge], place[other], layer[other]);
        }
    }

    /** A barge's line: its place and its layer behind each hour, THERE where it is not on the river. */
    private static final class Line {
        final int[] place = new int[HOURS];
        final int[] layer = new int[HOURS];

        Line() {
            Arrays.fill(place, THERE);
        }
    }

    /**
     * The soonest passages. Each is searched once a text: a slot keeps it, with its row of layers as
     * one number of base 6 (24 of them fit a long), so that the first row is the least number.
     */
    private static final class Planner {
        private static final int CLEAR_SLOTS = BARGES * HOURS, SLOTS = CLEAR_SLOTS + BARGES * BARGES;
        private static final int NOT_SEARCHED = -2, NOT_REACHED = -1;

        final int[] hoursOf = new int[SLOTS];
        private final River river;
        private final int[] runOf = new int[SLOTS];
        private final long[] rowOf = new long[SLOTS];
        private final Line nobody = new Line();
        private final Line drawn = new Line();
        // The least cord run, and the first row with it, by states (a place and a layer) behind an hour.
        private int[] runs = new int[STATES];
        private long[] rows = new long[STATES];
        private int[] nextRuns = new int[STATES];
        private long[] nextRows = new long[STATES];

        Planner(River told) {
            river = told;
            Arrays.fill(hoursOf, NOT_SEARCHED);
        }

        void forget() {
            Arrays.fill(hoursOf, NOT_SEARCHED);
        }

        /** The slot of the soonest passage of a barge from an hour. */
        int soonestOf(int barge, int hour) {
            int slot = barge * HOURS + hour;
            if (hoursOf[slot] == NOT_SEARCHED) {
                search(slot, barge, hour, nobody);
            }
            return slot;
        }

        /** The slot of the soonest passage clear of another one, that goes as the slot ahead says. */
        int clearOf(int barge, int other, int ahead) {
            int slot = CLEAR_SLOTS + barge * BARGES + other;
            if (hoursOf[slot] == NOT_SEARCHED) {
                draw(other, ahead);
                search(slot, barge, 1, drawn);
            }
            return slot;
        }

        /** What a call tells of a passage: its hours (-2), its cord run (-1), or a layer. */
        int answerOf(int slot, int i) {
            int hours = hoursOf[slot];
            if (hours == NONE || i >= hours) {
                return NONE;
            }
            if (i < 0) {
                return i == -1 ? runOf[slot] : hours;
            }
            return layerIn(slot, i);
        }

        /** The layer of one who keeps to a passage from hour 0, the last one further on. */
        int layerKept(int slot, int hour) {
            int hours = hoursOf[slot];
            return hours < 1 ? 0 : layerIn(slot, Math.min(hour, hours - 1));
        }

        /** The first hour behind which a barge on its passage from hour 0 is in a reach, in a layer. */
        int hourIn(int barge, int slot, int reach, int layer) {
            draw(barge, slot);
            for (int hour = 0; hour < HOURS; hour++) {
                int place = drawn.place[hour];
                if (place != THERE && place / MOST_YARDS == reach && drawn.layer[hour] == layer) {
                    return hour;
                }
            }
            return NONE;
        }

        private int layerIn(int slot, int i) {
            long row = rowOf[slot];
            for (int last = hoursOf[slot] - 1; last > i; last--) {
                row /= LAYERS;
            }
            return (int) (row % LAYERS);
        }

        private void draw(int barge, int slot) {
            int place = river.begin();
            for (int hour = 0; hour < HOURS; hour++) {
                if (hour < hoursOf[slot]) {
                    drawn.layer[hour] = layerIn(slot, hour);
                    place = river.moved(barge, place, drawn.layer[hour], hour);
                    drawn.place[hour] = place;
                } else {
                    drawn.place[hour] = THERE;
                }
            }
        }

        private void search(int slot, int barge, int start, Line other) {
            Arrays.fill(runs, NOT_REACHED);
            runs[river.begin() * LAYERS] = 0;
            rows[river.begin() * LAYERS] = 0;
            boolean isThere = settle(slot, 0);
            for (int hour = start; hour < HOURS && !isThere; hour++) {
                spread(barge, hour, hour - start, other);
                isThere = settle(slot, hour - start + 1);
            }
        }

        /** All that can be reached in an hour, of what was reached in some hours ahead of it. */
        private void spread(int barge, int hour, int hoursAhead, Line other) {
            Arrays.fill(nextRuns, NOT_REACHED);
            int cord = river.cordOf(barge);
            // Not more than a reach is left in an hour.
            int within = Math.min(river.reaches, hoursAhead + 1) * MOST_YARDS * LAYERS;
            for (int state = 0; state < within; state++) {
                if (runs[state] == NOT_REACHED) {
                    continue;
                }
                int layer = state % LAYERS;
                int most = Math.min(LAYERS - 1, layer + cord);
                for (int to = Math.max(0, layer - cord); to <= most; to++) {
                    int place = river.moved(barge, state / LAYERS, to, hour);
                    if (!isKnot(place, to, other.place[hour], other.layer[hour])) {
                        offer(place * LAYERS + to, runs[state] + Math.abs(to - layer), rows[state] * LAYERS + to);
                    }
                }
            }
            swap();
        }

        private void offer(int state, int run, long row) {
            int had = nextRuns[state];
            if (had == NOT_REACHED || run < had || run == had && row < nextRows[state]) {
                nextRuns[state] = run;
                nextRows[state] = row;
            }
        }

        private void swap() {
            int[] oldRuns = runs;
            long[] oldRows = rows;
            runs = nextRuns;
            rows = nextRows;
            nextRuns = oldRuns;
            nextRows = oldRows;
        }

        /** Puts the best passage that is there behind so many hours into its slot: if there is one. */
        private boolean settle(int slot, int hours) {
            hoursOf[slot] = NONE;
            for (int state = THERE * LAYERS; state < STATES; state++) {
                int run = runs[state];
                boolean isFirst = hoursOf[slot] == NONE || run < runOf[slot]
                        || run == runOf[slot] && rows[state] < rowOf[slot];
                if (run != NOT_REACHED && isFirst) {
                    hoursOf[slot] = hours;
                    runOf[slot] = run;
                    rowOf[slot] = rows[state];
                }
            }
            return hoursOf[slot] != NONE;
        }
    }

    /** Odds by lulls, each as a whole number of so many that 10 to the number of hours is certain. */
    private static final class Lulls {
        // Lulls as a tree: at 1 is the begin, behind a lull i goes to 2 i, else to 2 i + 1.
        private static final int TREE = 2 << MOST_ODDS_HOURS;

        private final River river;
        private final int[] placeAt = new int[TREE];
        private final long[] chanceOf = new long[TREE];
        // By states ahead of an hour: the greatest odds.
        private long[] values = new long[STATES];
        private long[] laterValues = new long[STATES];
        private final int[] hoursTo = new int[PLACES];
        private final long[] ifLull = new long[LAYERS];
        private final long[] ifWind = new long[LAYERS];

        Lulls(River told) {
            river = told;
        }

        /** Begins the tree of n hours with p tenths of lulls. */
        void start(int n, int p) {
            placeAt[1] = river.begin();
            chanceOf[1] = 1;
            int inner = 1 << Math.min(n, MOST_ODDS_HOURS);
            for (int i = 1; i < inner; i++) {
                chanceOf[2 * i] = chanceOf[i] * p;
                chanceOf[2 * i + 1] = chanceOf[i] * (10 - p);
            }
        }

        /** Lets an hour go in the tree, the kite in a layer. */
        void branch(int barge, int hour, int layer) {
            if (hour < 0 || hour >= MOST_ODDS_HOURS) {
                return;
            }
            for (int i = 1 << hour; i < 2 << hour; i++) {
                placeAt[2 * i] = placeAt[i];
                placeAt[2 * i + 1] = river.moved(barge, placeAt[i], layer, hour);
            }
        }

        long thereAfter(int n) {
            long sum = 0;
            if (n < 0 || n > MOST_ODDS_HOURS) {
                return sum;
            }
            for (int i = 1 << n; i < 2 << n; i++) {
                sum += placeAt[i] == THERE ? chanceOf[i] : 0;
            }
            return sum;
        }

        /** The greatest odds by any row of layers that is chosen ahead. */
        long bestBlind(int barge, int n, int p) {
            start(n, p);
            return bestRow(barge, n, 0, 0);
        }

        /** The same from an hour on, behind that part of a row by which the tree has branched. */
        private long bestRow(int barge, int n, int hour, int layer) {
            if (hour >= n || hour >= MOST_BLIND_HOURS) {
                return thereAfter(n);
            }
            long best = 0;
            int cord = river.cordOf(barge);
            int most = Math.min(LAYERS - 1, layer + cord);
            for (int to = Math.max(0, layer - cord); to <= most; to++) {
                branch(barge, hour, to);
                best = Math.max(best, bestRow(barge, n, hour + 1, to));
            }
            return best;
        }

        /** The greatest odds of one who sees each hour's lull ahead of it. */
        long bestSeeing(int barge, int n, int p) {
            findPlaces(barge, n);
            Arrays.fill(laterValues, 0L);
            for (int layer = 0; layer < LAYERS; layer++) {
                laterValues[THERE * LAYERS + layer] = 1;
            }
            for (int hour = n - 1; hour >= 0; hour--) {
                for (int place = 0; place < PLACES; place++) {
                    if (hoursTo[place] <= hour) {
                        valuePlace(barge, place, hour, p);
                    }
                }
                swap();
            }
            return laterValues[river.begin() * LAYERS];
        }

        /** Behind how many hours each place can be reached: by a lull one stays, so further on, too. */
        private void findPlaces(int barge, int n) {
            Arrays.fill(hoursTo, HOURS);
            hoursTo[river.begin()] = 0;
            for (int hour = 0; hour < n - 1; hour++) {
                for (int place = 0; place < THERE; place++) {
                    if (hoursTo[place] <= hour) {
                        findNext(barge, place, hour);
                    }
                }
            }
        }

        private void findNext(int barge, int place, int hour) {
            for (int layer = 0; layer < LAYERS; layer++) {
                int to = river.moved(barge, place, layer, hour);
                hoursTo[to] = Math.min(hoursTo[to], hour + 1);
            }
        }

        private void valuePlace(int barge, int place, int hour, int p) {
            for (int layer = 0; layer < LAYERS; layer++) {
                ifLull[layer] = laterValues[place * LAYERS + layer];
                ifWind[layer] = laterValues[river.moved(barge, place, layer, hour) * LAYERS + layer];
            }
            int cord = river.cordOf(barge);
            for (int layer = 0; layer < LAYERS; layer++) {
                values[place * LAYERS + layer] =
                        p * greatest(ifLull, layer, cord) + (10 - p) * greatest(ifWind, layer, cord);
            }
        }

        private static long greatest(long[] byLayer, int layer, int cord) {
            long best = 0;
            int most = Math.min(LAYERS - 1, layer + cord);
            for (int to = Math.max(0, layer - cord); to <= most; to++) {
                best = Math.max(best, byLayer[to]);
            }
            return best;
        }

        private void swap() {
            long[] old = values;
            values = laterValues;
            laterValues = old;
        }
    }
}
