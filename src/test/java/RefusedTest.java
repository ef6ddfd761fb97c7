import java.util.function.Supplier;

/**
 * "Refused, and nothing changes: UNKNOWN .., OUTSIDE .., NOT .., FULL: the first of these that fits":
 * each call with each word that its promise names, which one it is where more than one fits, and that
 * an object behind the call is as one without it. So are the calls that only tell or plan.
 */
public final class RefusedTest {
    private static final int NONE = -1, UNKNOWN = -2, OUTSIDE = -3, NOT = -4, FULL = -5;
    private static final int[] NO_BARGES = Numbers.outside(0, 3);
    private static final int[] NO_LAYERS = Numbers.outside(0, 5);
    private static final int[] NO_HOURS = Numbers.outside(0, 23);
    /** The scenes have three reaches at most. */
    private static final int[] NO_REACHES = Numbers.outside(0, 2);
    private static final int[] NO_PARTS = Numbers.outside(0, 1);
    private static final int[] NO_TENTHS = Numbers.outside(0, 10);
    private static final int[] BELOW = {-3, -4, -100, Integer.MIN_VALUE, Integer.MIN_VALUE + 1};
    private static final Due DUE = new Due();

    public static void main(String[] args) {
        write();
        river();
        reach();
        wind();
        barge();
        as();
        yards();
        cord();
        go();
        at();
        knots();
        keepAndBack();
        soonest();
        clear();
        clearOfOneWithoutSoonest();
        for (int which = 0; which < ODDS.length; which++) {
            odds(which);
        }
        found();
        first();
        books();
        count();
        tellingChangesNothing();
        DUE.end();
    }

    // ---- scenes: objects in the state in which a call is refused

    private interface Call {
        long on(KiteBarges x);
    }

    /** A state, and its picture. */
    private static final class Scene {
        final String name;
        final Supplier<KiteBarges> made;
        final String picture;

        Scene(String name, Supplier<KiteBarges> made) {
            this.name = name;
            this.made = made;
            picture = Picture.of(made);
        }

        /** A call that answers this, and changes nothing. */
        void answers(String what, long want, Call call) {
            DUE.is(name + ": " + what, call.on(made.get()), want);
            keeps(what, call);
        }

        void keeps(String what, Call call) {
            String behind = Picture.of(() -> {
                KiteBarges x = made.get();
                call.on(x);
                return x;
            });
            DUE.holds(name + ": " + what + " changes nothing", behind.equals(picture));
        }
    }

    /** Three reaches, winds, barges 0 to 2; three hours have gone, what was behind one is kept as 0. */
    private static KiteBarges underWay() {
        KiteBarges x = Due.told("open 0 10;trees 1 9;lock 2 8;still 3;wind 0 0 23 1 3;wind 1 0 23 2 6;wind 3 0 11 0 9",
                "barge 0 5 2 plain 7;barge 1 4 5 slow 11;barge 2 9 3 torn 20");
        x.cord(0, 2);
        x.go(1);
        x.keep(0);
        x.cord(1, 1);
        x.go(2);
        x.cord(2, 3);
        x.cord(0, 1);
        return x;
    }

    private static KiteBarges with(KiteBarges x, String text) {
        Due.write(x, text);
        return x;
    }

    private static KiteBarges gone(KiteBarges x, int hours) {
        x.keep(1);
        x.go(hours);
        return x;
    }

    private static final Scene NEW = new Scene("new", KiteBarges::new);
    private static final Scene BUSY = new Scene("under way", () -> with(underWay(), "still 5;sold 0"));
    private static final Scene FAULTY = new Scene("a faulty text", () -> with(underWay(), "still 5;dry;open 7"));
    private static final Scene LONG_TEXT = new Scene("a full text", () -> with(underWay(), "still 5" + " ".repeat(193)));
    private static final Scene ENDED = new Scene("no hours left", () -> gone(underWay(), 24));
    private static final Scene DRY = new Scene("without reaches", () -> gone(Due.told("dry;barge 0 9 2 plain 7;barge 1 9 2 sail 7"), 3));
    private static final Scene CALM = new Scene("barge 1 too heavy",
            () -> gone(Due.told("open 0 3;open 0 2;wind 0 0 23 0 5;barge 0 10 2 plain 7;barge 1 51 1 plain 9;barge 2 60 1 plain 1"), 2));

    // ---- what is told

    private static void write() {
        for (int n : Numbers.outside(1, 8)) {
            for (Scene scene : new Scene[] {NEW, BUSY, LONG_TEXT}) {
                scene.answers("write n " + n, OUTSIDE, x -> x.write(Long.MIN_VALUE, n));
                scene.answers("write of all ones, n " + n, OUTSIDE, x -> x.write(-1L, n));
            }
        }
        for (int n = 1; n <= 8; n++) {
            int few = n;
            LONG_TEXT.answers("write " + n + " more", FULL, x -> x.write(0x7a7a7a7a7a7a7a7aL, few));
            Scene almost = new Scene("room for " + (n - 1), () -> with(underWay(), "dry" + " ".repeat(198 - few)));
            almost.answers("write " + n + " more", FULL, x -> x.write(0x7a7a7a7a7a7a7a7aL, few));
            almost.answers("write 8 more", FULL, x -> x.write(Long.MAX_VALUE, 8));
        }
    }

    private static void river() {
        NEW.answers("river of no text", NOT, KiteBarges::river);
        FAULTY.answers("river", NOT, KiteBarges::river);
        ENDED.answers("river of no text", NOT, KiteBarges::river);
        FAULTY.answers("river, twice", 2 * NOT, x -> x.river() + x.river());
        String[] faulty = {";", " ", "dry;", "still 10", "sold 4", "wind 0 1 0 0 0", "barge 0 1 1 plain 100",
            "open 0 1;".repeat(5) + "open 0 1", "dry;".repeat(8) + "dry"};
        for (String text : faulty) {
            new Scene("text '" + text + "'", () -> with(underWay(), text)).answers("river", NOT, KiteBarges::river);
        }
    }

    private static void reach() {
        for (int reach : NO_REACHES) {
            BUSY.answers("reach(" + reach + ", 0)", UNKNOWN, x -> x.reach(reach, 0));
            BUSY.answers("reach(" + reach + ", 3)", UNKNOWN, x -> x.reach(reach, 3));
        }
        for (int what : Numbers.outside(0, 2)) {
            for (int reach = 0; reach < 3; reach++) {
                int known = reach;
                BUSY.answers("reach(" + reach + ", " + what + ")", OUTSIDE, x -> x.reach(known, what));
            }
            DRY.answers("reach(0, " + what + ")", UNKNOWN, x -> x.reach(0, what));
        }
    }

    private static void wind() {
        for (int layer : NO_LAYERS) {
            BUSY.answers("wind(" + layer + ", 0, 0)", UNKNOWN, x -> x.wind(layer, 0, 0));
            BUSY.answers("wind(" + layer + ", 24, 2)", UNKNOWN, x -> x.wind(layer, 24, 2));
        }
        for (int hour : NO_HOURS) {
            BUSY.answers("wind(0, " + hour + ", 0)", UNKNOWN, x -> x.wind(0, hour, 0));
            BUSY.answers("wind(5, " + hour + ", 2)", UNKNOWN, x -> x.wind(5, hour, 2));
        }
        for (int what : Numbers.outside(0, 1)) {
            BUSY.answers("wind(0, 0, " + what + ")", OUTSIDE, x -> x.wind(0, 0, what));
            BUSY.answers("wind(5, 23, " + what + ")", OUTSIDE, x -> x.wind(5, 23, what));
        }
    }

    /** A call of a barge, that is refused if the barge is no barge, or is not told. */
    private interface BargeCall {
        long on(KiteBarges x, int barge);
    }

    /** UNKNOWN: no such barge; one not told (3 under way, all of a new object); ahead of what else is wrong. */
    private static void unknownBarges(String what, BargeCall... calls) {
        for (BargeCall call : calls) {
            for (int barge : NO_BARGES) {
                BUSY.answers(what + " of " + barge, UNKNOWN, x -> call.on(x, barge));
            }
            BUSY.answers(what + " of one not told", UNKNOWN, x -> call.on(x, 3));
            ENDED.answers(what + " of one not told", UNKNOWN, x -> call.on(x, 3));
            DRY.answers(what + " of one not told", UNKNOWN, x -> call.on(x, 2));
            for (int barge = 0; barge < 4; barge++) {
                int none = barge;
                NEW.answers(what + " of " + barge, UNKNOWN, x -> call.on(x, none));
            }
        }
    }

    private static void barge() {
        unknownBarges("barge", (x, barge) -> x.barge(barge, 0), (x, barge) -> x.barge(barge, 4));
        for (int what : Numbers.outside(0, 3)) {
            BUSY.answers("barge(0, " + what + ")", OUTSIDE, x -> x.barge(0, what));
            BUSY.answers("barge(2, " + what + ")", OUTSIDE, x -> x.barge(2, what));
        }
    }

    private static void as() {
        unknownBarges("as", (x, barge) -> x.as(barge, 0), (x, barge) -> x.as(barge, 4), (x, barge) -> x.as(barge, 5));
        for (int kind : Numbers.outside(0, 4)) {
            BUSY.answers("as(0, " + kind + ")", OUTSIDE, x -> x.as(0, kind));
            BUSY.answers("as(2, " + kind + ")", OUTSIDE, x -> x.as(2, kind));
        }
        for (int kind = 1; kind <= 4; kind++) {
            int such = kind;
            BUSY.answers("a plain one as " + kind, NOT, x -> x.as(0, such));
        }
        BUSY.answers("a slow one as paired", NOT, x -> x.as(1, 1));
        BUSY.answers("a torn one as slow", NOT, x -> x.as(2, 2));
        DRY.answers("a sail as torn", NOT, x -> x.as(1, 4));
    }

    // ---- hour by hour

    private static void yards() {
        unknownBarges("yards", (x, barge) -> x.yards(barge, 0, 0, 0), (x, barge) -> x.yards(barge, 3, 6, 24));
        for (int reach : NO_REACHES) {
            BUSY.answers("yards at " + reach, UNKNOWN, x -> x.yards(0, reach, 0, 0));
        }
        for (int layer : NO_LAYERS) {
            BUSY.answers("yards in layer " + layer, UNKNOWN, x -> x.yards(2, 2, layer, 23));
            BUSY.answers("yards under trees in layer " + layer, UNKNOWN, x -> x.yards(2, 1, layer, 23));
        }
        for (int hour : NO_HOURS) {
            BUSY.answers("yards in hour " + hour, UNKNOWN, x -> x.yards(1, 1, 5, hour));
        }
        DRY.answers("yards at the begin", UNKNOWN, x -> x.yards(0, 0, 0, 0));
    }

    private static void cord() {
        unknownBarges("cord", (x, barge) -> x.cord(barge, 0), (x, barge) -> x.cord(barge, 6));
        for (int layer : NO_LAYERS) {
            for (int barge = 0; barge < 2; barge++) {
                int one = barge;
                for (Scene scene : new Scene[] {BUSY, ENDED, DRY}) {
                    scene.answers("cord(" + barge + ", " + layer + ")", OUTSIDE, x -> x.cord(one, layer));
                }
            }
        }
        // Barge 0 was in layer 2 behind the last hour, barge 1 in layer 1, barge 2 in layer 0; cords of 2, 1 and 3.
        BUSY.answers("cord 2 to layer 5", OUTSIDE, x -> x.cord(0, 5));
        BUSY.answers("a slow one to layer 3", OUTSIDE, x -> x.cord(1, 3));
        BUSY.answers("cord 3 to layer 4", OUTSIDE, x -> x.cord(2, 4));
        ENDED.answers("cord 3 to layer 0", NOT, x -> x.cord(2, 0));
        ENDED.answers("a slow one to layer 3, OUTSIDE ahead of NOT", OUTSIDE, x -> x.cord(1, 3));
        ENDED.answers("a slow one to layer 2", NOT, x -> x.cord(1, 2));
        ENDED.answers("a slow one to where it is", NOT, x -> x.cord(1, 1));
        DRY.answers("there, to layer 2", NOT, x -> x.cord(0, 2));
        DRY.answers("there, to layer 0", NOT, x -> x.cord(0, 0));
        DRY.answers("there, to layer 3", OUTSIDE, x -> x.cord(0, 3));
    }

    private static void go() {
        for (int n : Numbers.outside(1, 24)) {
            for (Scene scene : new Scene[] {NEW, BUSY, ENDED}) {
                scene.answers("go " + n, OUTSIDE, x -> x.go(n));
            }
        }
        ENDED.answers("go 1, none is left", 24, x -> x.go(1));
        ENDED.answers("go 24, none is left", 24, x -> x.go(24));
    }

    private static void at() {
        unknownBarges("at", (x, barge) -> x.at(barge, 0), (x, barge) -> x.at(barge, 5));
        for (int what : Numbers.outside(0, 4)) {
            BUSY.answers("at(0, " + what + ")", OUTSIDE, x -> x.at(0, what));
            DRY.answers("there, at(0, " + what + ")", OUTSIDE, x -> x.at(0, what));
        }
    }

    private static void knots() {
        unknownBarges("knots", (x, barge) -> x.knots(barge));
    }

    private static void keepAndBack() {
        for (int k : Numbers.outside(0, 1)) {
            for (Scene scene : new Scene[] {NEW, BUSY, ENDED}) {
                scene.answers("keep " + k, UNKNOWN, x -> x.keep(k));
                scene.answers("back " + k, UNKNOWN, x -> x.back(k));
            }
        }
        NEW.answers("back 0", NOT, x -> x.back(0));
        NEW.answers("back 1", NOT, x -> x.back(1));
        BUSY.answers("back 1", NOT, x -> x.back(1));
        DRY.answers("back 0", NOT, x -> x.back(0));
        Scene told = new Scene("told again", () -> gone(with(Due.told("open 0 9;barge 0 1 1 plain 1"), "dry"), 2));
        told.answers("back 0", NOT, x -> x.back(0));
        Scene since = new Scene("a text since", () -> {
            KiteBarges x = underWay();
            x.keep(1);
            Due.tell(x, "still 3");
            x.go(5);
            return x;
        });
        since.answers("back 0", NOT, x -> x.back(0));
        since.answers("back 1", NOT, x -> x.back(1));
    }

    // ---- plans

    private static void soonest() {
        unknownBarges("soonest", (x, barge) -> x.soonest(barge, 0, -2), (x, barge) -> x.soonest(barge, 24, -3));
        for (int hour : NO_HOURS) {
            BUSY.answers("soonest from " + hour, UNKNOWN, x -> x.soonest(0, hour, 0));
            BUSY.answers("soonest from " + hour + ", i -3", UNKNOWN, x -> x.soonest(0, hour, -3));
            DRY.answers("soonest from " + hour, UNKNOWN, x -> x.soonest(0, hour, -2));
        }
        for (int i : BELOW) {
            for (Scene scene : new Scene[] {BUSY, ENDED, DRY, CALM}) {
                scene.answers("soonest, i " + i, OUTSIDE, x -> x.soonest(1, 0, i));
            }
            BUSY.answers("soonest from hour 23, i " + i, OUTSIDE, x -> x.soonest(1, 23, i));
        }
    }

    private static void clear() {
        unknownBarges("clear", (x, barge) -> x.clear(barge, 0, -2), (x, barge) -> x.clear(0, barge, -2),
                (x, barge) -> x.clear(barge, barge, -2), (x, barge) -> x.clear(barge, 1, -3),
                (x, barge) -> x.clear(1, barge, -3));
        for (int barge = 0; barge < 3; barge++) {
            int one = barge;
            for (int i : new int[] {-3, -2, -1, 0, 23, Integer.MAX_VALUE, Integer.MIN_VALUE}) {
                BUSY.answers("clear of itself, " + barge + ", i " + i, OUTSIDE, x -> x.clear(one, one, i));
            }
        }
        for (int i : BELOW) {
            for (Scene scene : new Scene[] {BUSY, ENDED, DRY, CALM}) {
                scene.answers("clear, i " + i, OUTSIDE, x -> x.clear(0, 1, i));
            }
        }
    }

    private static void clearOfOneWithoutSoonest() {
        for (int i : new int[] {-2, -1, 0, 1, 23, 24, Integer.MAX_VALUE}) {
            CALM.answers("clear of 1, i " + i, NOT, x -> x.clear(0, 1, i));
            CALM.answers("2 clear of 1, i " + i, NOT, x -> x.clear(2, 1, i));
            CALM.answers("1 clear of 0, i " + i, NONE, x -> x.clear(1, 0, i));
        }
        CALM.answers("clear of itself", OUTSIDE, x -> x.clear(1, 1, 0));
    }

    // ---- odds

    private interface OddsCall {
        long on(KiteBarges x, int barge, int n, int p, int part);
    }

    private static final OddsCall[] ODDS = {KiteBarges::odds, KiteBarges::sight, KiteBarges::blind, KiteBarges::worth};
    private static final String[] NAMES = {"odds", "sight", "blind", "worth"};

    private static void odds(int which) {
        OddsCall call = ODDS[which];
        String name = NAMES[which];
        unknownBarges(name, (x, barge) -> call.on(x, barge, 0, 0, 0), (x, barge) -> call.on(x, barge, 9, 11, 2),
                (x, barge) -> call.on(x, barge, -1, -1, -1));
        for (int n : Numbers.outside(0, which < 2 ? 8 : 4)) {
            for (Scene scene : new Scene[] {BUSY, DRY, CALM}) {
                scene.answers(name + ", n " + n, OUTSIDE, x -> call.on(x, 1, n, 5, 0));
            }
        }
        for (int p : NO_TENTHS) {
            for (Scene scene : new Scene[] {BUSY, DRY, CALM}) {
                scene.answers(name + ", p " + p, OUTSIDE, x -> call.on(x, 1, 4, p, 1));
            }
        }
        for (int part : NO_PARTS) {
            for (Scene scene : new Scene[] {BUSY, DRY, CALM}) {
                scene.answers(name + ", part " + part, OUTSIDE, x -> call.on(x, 1, 0, 10, part));
            }
        }
        for (int part = 0; part < 2; part++) {
            int one = part;
            CALM.answers(name + " of one without soonest", which == 0 ? NOT : part, x -> call.on(x, 1, 4, 5, one));
            CALM.answers(name + " in no hours", which == 0 ? NOT : part, x -> call.on(x, 1, 0, 0, one));
        }
    }

    // ---- lines that are found, books

    private static void found() {
        for (int reach : NO_REACHES) {
            BUSY.answers("found in " + reach, UNKNOWN, x -> x.found(reach, 0));
        }
        for (int layer : NO_LAYERS) {
            BUSY.answers("found in layer " + layer, UNKNOWN, x -> x.found(2, layer));
        }
        DRY.answers("found in reach 0", UNKNOWN, x -> x.found(0, 0));
        NEW.answers("found in reach 0", UNKNOWN, x -> x.found(0, 0));
        CALM.answers("found in reach 2", UNKNOWN, x -> x.found(2, 5));
    }

    private static void first() {
        unknownBarges("first", (x, barge) -> x.first(barge, 0, 0), (x, barge) -> x.first(barge, 3, 6));
        for (int reach : NO_REACHES) {
            BUSY.answers("first in " + reach, UNKNOWN, x -> x.first(0, reach, 0));
        }
        for (int layer : NO_LAYERS) {
            BUSY.answers("first in layer " + layer, UNKNOWN, x -> x.first(2, 2, layer));
        }
        DRY.answers("first in reach 0", UNKNOWN, x -> x.first(0, 0, 0));
        CALM.answers("first in reach 2", UNKNOWN, x -> x.first(1, 2, 0));
        CALM.answers("first without soonest", NONE, x -> x.first(1, 1, 5));
    }

    private static void books() {
        unknownBarges("books", (x, barge) -> x.books(barge, 0), (x, barge) -> x.books(barge, 2));
        for (int what : Numbers.outside(0, 1)) {
            for (Scene scene : new Scene[] {BUSY, DRY, CALM}) {
                scene.answers("books, what " + what, OUTSIDE, x -> x.books(1, what));
            }
        }
        DRY.answers("how often, without reaches", NOT, x -> x.books(0, 0));
        DRY.answers("freight, without reaches", NOT, x -> x.books(1, 1));
    }

    private static void count() {
        for (int what : Numbers.outside(0, 5)) {
            for (Scene scene : new Scene[] {NEW, BUSY, DRY}) {
                scene.answers("count " + what, OUTSIDE, x -> x.count(what));
            }
        }
    }

    // ---- "plans (nothing changes here and below)", and what only tells

    private static void tellingChangesNothing() {
        for (Scene scene : new Scene[] {NEW, BUSY, FAULTY, LONG_TEXT, ENDED, DRY, CALM}) {
            scene.keeps("fault", KiteBarges::fault);
            scene.keeps("reach, wind, barge, as", x -> x.reach(1, 1) + x.wind(3, 4, 1) + x.barge(0, 1) + x.as(1, 0));
            scene.keeps("yards, at, knots, count", x -> x.yards(0, 0, 1, 2) + x.at(1, 2) + x.knots(0) + x.count(3));
            for (int barge = 0; barge < 4; barge++) {
                int one = barge;
                int other = barge + 1 & 3;
                scene.keeps("soonest", x -> x.soonest(one, 7, -2) + x.soonest(one, 0, 0));
                scene.keeps("clear", x -> x.clear(one, other, -2) + x.clear(other, one, 0));
                scene.keeps("odds", x -> x.odds(one, 8, 3, 0));
                scene.keeps("sight", x -> x.sight(one, 8, 3, 0));
                scene.keeps("blind", x -> x.blind(one, 4, 3, 0));
                scene.keeps("worth", x -> x.worth(one, 4, 3, 0));
                scene.keeps("first", x -> x.first(one, 1, 0));
                scene.keeps("books", x -> x.books(one, 0));
            }
            scene.keeps("found", x -> x.found(0, 0) + x.found(1, 1));
        }
    }
}
