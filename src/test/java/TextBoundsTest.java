import java.util.Random;

/** Promises 1 to 5 and the words of THE TEXT: each sentence that names a bound, at both its ends. */
public final class TextBoundsTest {
    private static final int NONE = -1, UNKNOWN = -2, OUTSIDE = -3, NOT = -4, FULL = -5;
    private static final String[] REACHES = {"open", "trees", "lock"};
    private static final String[] KITES = {"plain", "paired", "slow", "sail", "torn"};
    private static final String[] LINES = {"open 7 20", "trees 07 1", "lock 0 20", "dry", "wind 5 0 23 7 9",
        "wind 0 9 10 0 0", "barge 3 60 5 plain 99", "barge 0 1 1 paired 0", "barge 1 9 2 slow 10",
        "barge 2 10 3 sail 9", "barge 3 11 4 torn 09", "sold 3", "still 9"};
    private static final Due DUE = new Due();

    public static void main(String[] args) {
        oneToEightBytesAreWritten();
        bytesAboveTheNthAreNotWritten();
        byteOfEachPlaceIsRead();
        byteOfEachValueIsRead();
        textHoldsTwoHundredBytes();
        textIsErased();
        textOfTwoHundredBytesIsRead();
        linesAreEightAtMost();
        linesAreNotEmpty();
        numbersOfReaches();
        numbersOfWinds();
        numbersOfBarges();
        numbersOfOtherLines();
        wordsAreThoseAlone();
        tokensAreRowsOfOneKind();
        blanksAreBetween();
        endComesTooSoon();
        firstFaultIsTold();
        ninthReachHasNoPlace();
        dryMakesPlace();
        linesAreDoneInTheirOrder();
        windIsOfHoursFromTo();
        bargesAreToldAnewAndSold();
        allBeginsBehindAText();
        cordsBeginInLayer0BehindAText();
        faultChangesNothing();
        everyEditOfALine();
        textsAtRandom();
        DUE.end();
    }

    private static void is(String what, long got, long want) {
        DUE.is(what, got, want);
    }

    private static void faultOf(String text, int want) {
        is("4: fault of '" + text + "'", Due.fault(new KiteBarges(), text), want);
    }

    // ---- "n (1 .. 8) bytes more of THE TEXT, byte i being bytes >> 8 i & 255: how many it has."

    private static void oneToEightBytesAreWritten() {
        for (int n = 1; n <= 8; n++) {
            KiteBarges x = new KiteBarges();
            is("2: the first " + n, x.write(0x2020202020202020L, n), n);
            is("2: the next one", x.write(32, 1), n + 1);
            is("2: and " + n + " more", x.write(Long.MAX_VALUE, n), 2 * n + 1);
            is("2: counted", x.count(4), 2 * n + 1);
        }
        for (int n : Numbers.outside(1, 8)) {
            KiteBarges x = new KiteBarges();
            is("2: no bytes, n " + n, x.write(32, n), OUTSIDE);
            x.write(32, 1);
            is("2: of a text, n " + n, x.write(Long.MIN_VALUE, n), OUTSIDE);
            is("2: nothing was written", x.count(4), 1);
        }
    }

    /** The same text by n bytes at a time, with other bytes above them. */
    private static void bytesAboveTheNthAreNotWritten() {
        String text = "barge 3 60 5 paired 99;open 7 20;wind 5 22 23 7 9";
        for (int n = 1; n <= 8; n++) {
            KiteBarges x = new KiteBarges();
            for (int from = 0; from < text.length(); from += n) {
                int few = Math.min(n, text.length() - from);
                long bytes = n % 2 == 0 ? -1 : 0x6161616161616161L;
                for (int i = few - 1; i >= 0; i--) {
                    bytes = bytes << 8 | text.charAt(from + i);
                }
                is("2: by " + n, x.write(bytes, few), from + few);
            }
            is("2: read, by " + n, x.fault(), NONE);
            is("2: done, by " + n, x.river(), 3);
            is("2: weight, by " + n, x.barge(3, 0), 60);
            is("2: freight, by " + n, x.barge(3, 3), 99);
            is("2: long, by " + n, x.reach(0, 1), 20);
            is("2: strength, by " + n, x.wind(5, 23, 1), 9);
        }
    }

    private static void byteOfEachPlaceIsRead() {
        for (int place = 0; place < 8; place++) {
            for (int digit = 0; digit <= 9; digit++) {
                KiteBarges x = new KiteBarges();
                Due.write(x, "still");
                long blanks = 0x2020202020202020L & ~(255L << 8 * place);
                x.write(blanks | (long) ('0' + digit) << 8 * place, 8);
                is("2: digit " + digit + " at " + place, x.river(), 1);
                is("2: still " + digit + " by the byte at " + place, x.count(2), digit);
            }
            KiteBarges y = new KiteBarges();
            Due.write(y, "still 9");
            y.write(0x2020202020202020L | 255L << 8 * place, 8);
            is("2: a byte of 255 at " + place, y.fault(), 7 + place);
        }
    }

    /** Each of the 256 bytes, ahead of a word, behind a word, where a number is due and behind one. */
    private static void byteOfEachValueIsRead() {
        for (int value = 0; value < 256; value++) {
            boolean isLetter = value >= 'a' && value <= 'z';
            boolean isDigit = value >= '0' && value <= '9';
            String sign = String.valueOf((char) value);
            faultOf(sign + "dry", value == ' ' ? NONE : 0);
            faultOf("dry" + sign, value == ' ' ? NONE : value == ';' ? 4 : isLetter ? 0 : 3);
            faultOf("still " + sign, isDigit ? NONE : value == ' ' ? 7 : 6);
            faultOf("open 0 2" + sign, value == ' ' || value == '0' ? NONE : value == ';' ? 9 : isDigit ? 7 : 8);
            faultOf("dry" + sign + "dry", value == ';' ? NONE : value == ' ' ? 4 : isLetter ? 0 : 3);
        }
    }

    // ---- "THE TEXT is a row of bytes, 200 at most"; "FULL."

    private static KiteBarges blanks(int length) {
        KiteBarges x = new KiteBarges();
        Due.write(x, " ".repeat(length));
        return x;
    }

    private static void textHoldsTwoHundredBytes() {
        for (int n = 1; n <= 8; n++) {
            is("2: up to 200 by " + n, blanks(200 - n).write(32, n), 200);
            KiteBarges x = blanks(201 - n);
            is("2: up to 201 by " + n, x.write(32, n), FULL);
            is("2: as many as before", x.count(4), 201 - n);
            is("2: the fault is at the same end", x.fault(), 201 - n);
            is("2: up to 200 then", n == 1 ? 200 : x.write(0x2020202020202020L, n - 1), 200);
            is("2: full by " + n, x.write(32, n), FULL);
            is("2: 200 bytes", x.count(4), 200);
        }
        for (int n : Numbers.outside(1, 8)) {
            is("2: OUTSIDE ahead of FULL, n " + n, blanks(200).write(0, n), OUTSIDE);
        }
    }

    // ---- "THE TEXT is empty: how many bytes it had."

    private static void textIsErased() {
        is("3: a new one", new KiteBarges().erase(), 0);
        for (int length : new int[] {1, 7, 8, 9, 199, 200}) {
            KiteBarges x = blanks(length);
            is("3: " + length, x.erase(), length);
            is("3: empty", x.count(4), 0);
            is("3: its fault", x.fault(), 0);
            is("3: again", x.erase(), 0);
            is("3: room for as many", Due.write(x, "dry" + " ".repeat(197)), 200);
            is("3: nothing of the old bytes", x.river(), 1);
            is("3: done, so empty", x.erase(), 0);
        }
    }

    private static void textOfTwoHundredBytesIsRead() {
        faultOf(" ".repeat(200), 200);
        faultOf(" ".repeat(199) + "x", 199);
        faultOf(" ".repeat(197) + "dry", NONE);
        faultOf("dry" + " ".repeat(197), NONE);
        faultOf("still" + " ".repeat(194) + "9", NONE);
        faultOf("dry" + " ".repeat(196) + ";", 200);
        faultOf("dry" + " ".repeat(196) + "x", 199);
        faultOf("x".repeat(200), 0);
        faultOf("still " + "0".repeat(194), 6);
        faultOf("still " + "0".repeat(192) + " 1", 6);
        KiteBarges x = new KiteBarges();
        Due.write(x, " ".repeat(191) + "open 7 20");
        is("5: 200 bytes are done", x.river(), 1);
        is("5: by their last byte", x.reach(0, 1), 20);
        is("5: and are gone", x.count(4), 0);
    }

    // ---- "LINES with ; (59) between, 8 at most"; "how many there were. NOT: it has a FAULT."

    private static void linesAreEightAtMost() {
        for (int lines = 1; lines <= 8; lines++) {
            String text = "dry;".repeat(lines - 1) + "dry";
            faultOf(text, NONE);
            is("5: " + lines + " lines", Due.tell(new KiteBarges(), text), lines);
            faultOf(text + ";", lines == 8 ? text.length() : text.length() + 1);
        }
        faultOf("dry;".repeat(8) + "dry", 31);
        faultOf("dry;".repeat(7) + "dry ;dry", 32);
        faultOf("dry;".repeat(49) + "dry", 31);
        KiteBarges x = new KiteBarges();
        Due.write(x, "still 3;" + "dry;".repeat(7) + "still 4");
        is("5: nine lines", x.river(), NOT);
        is("5: none of them is done", x.count(2), 2);
        is("5: their text stays", x.count(4), 43);
    }

    private static void linesAreNotEmpty() {
        faultOf("", 0);
        faultOf(";", 0);
        faultOf(" ", 1);
        faultOf(" ;", 1);
        faultOf(";dry", 0);
        faultOf("dry;", 4);
        faultOf("dry; ", 5);
        faultOf("dry;;dry", 4);
        faultOf("dry; ;dry", 5);
        faultOf("still 3;", 8);
        KiteBarges x = new KiteBarges();
        is("5: an empty text", x.river(), NOT);
        Due.tell(x, "still 3");
        is("5: empty again", x.river(), NOT);
        is("5: still as told", x.count(2), 3);
    }

    // ---- "A FAULT is at the first TOKEN that cannot stand there (a number out of its bounds, of more digits, also)"

    /** A number of a line, as # in it: all of one or two digits, those of more, and what is no number. */
    private static void number(String line, int least, int most) {
        int place = line.indexOf('#');
        for (int n = 0; n <= 99; n++) {
            int want = n >= least && n <= most ? NONE : place;
            faultOf(line.replace("#", "" + n), want);
            if (n < 10) {
                faultOf(line.replace("#", "0" + n), want);
            }
        }
        String[] others = {"00" + least, "0" + (most + 100), "100", "256", "4294967296", "18446744073709551616",
            "00000000001", "-1", "+1", "x", "plain", ";", ".", "\0", "\u00ff", "A"};
        for (String other : others) {
            faultOf(line.replace("#", other), place);
        }
        faultOf(line.substring(0, place), place);
        faultOf(line.substring(0, place) + "   ", place + 3);
        faultOf(line.substring(0, place) + least + "x", place + String.valueOf(least).length());
    }

    private static void numbersOfReaches() {
        for (String word : REACHES) {
            number(word + " # 1", 0, 7);
            number(word + " # 20", 0, 7);
            number(word + " 0 #", 1, 20);
            number(word + " 7 #", 1, 20);
        }
    }

    private static void numbersOfWinds() {
        number("wind # 0 23 7 9", 0, 5);
        number("wind 0 # 23 0 0", 0, 23);
        number("wind 5 0 # 0 0", 0, 23);
        number("wind 0 0 0 # 0", 0, 7);
        number("wind 0 0 0 0 #", 0, 9);
        // "(B not below A)"
        for (int from = 0; from <= 23; from++) {
            number("wind 5 " + from + " # 7 9", from, 23);
            hourUpTo("wind 5 # " + from + " 7 9", from);
        }
    }

    /** The first hour of a wind up to another: one above that may stand there, but not the other behind it. */
    private static void hourUpTo(String line, int till) {
        int place = line.indexOf('#');
        for (int hour = 0; hour < 24; hour++) {
            int other = place + String.valueOf(hour).length() + 1;
            faultOf(line.replace("#", "" + hour), hour <= till ? NONE : other);
        }
        faultOf(line.replace("#", "24"), place);
    }

    private static void numbersOfBarges() {
        for (String kite : KITES) {
            number("barge # 60 5 " + kite + " 99", 0, 3);
            number("barge 3 # 1 " + kite + " 0", 1, 60);
            number("barge 0 1 # " + kite + " 0", 1, 5);
            number("barge 1 1 1 " + kite + " #", 0, 99);
        }
    }

    private static void numbersOfOtherLines() {
        number("sold #", 0, 3);
        number("still #", 0, 9);
        faultOf("dry 0", 4);
        faultOf("dry0", 3);
        for (int still = 0; still <= 9; still++) {
            KiteBarges x = Due.told("still " + still);
            is("5: still " + still, x.count(2), still);
            Due.tell(x, "still 0" + (9 - still));
            is("5: still 0" + (9 - still), x.count(2), 9 - still);
        }
    }

    // ---- "each is one of: open D L. trees D L. lock D L. dry. wind K A B D S. barge N W C plain F. sold N. still S."

    private static void wordsAreThoseAlone() {
        String[] words = {"o", "ope", "opens", "tree", "treess", "loc", "locks", "dr", "dryy", "win", "winds", "barg",
            "barges", "sol", "solds", "stil", "stills", "plain", "paired", "slow", "sail", "torn", "a", "z",
            "openopen", "OPEN", "Open", "0", "10", "oPen"};
        for (String word : words) {
            faultOf(word + " 0 1", 0);
            faultOf("dry;" + word + " 0 1", 4);
        }
        String[] noKites = {"plai", "plains", "pair", "paireds", "slo", "slows", "sai", "sails", "tor", "torns", "open",
            "dry", "0", "4", ";", "PLAIN", "plain0x"};
        for (String kite : noKites) {
            faultOf("barge 0 1 1 " + kite + " 0", kite.equals("plain0x") ? 18 : 12);
        }
        for (int kite = 0; kite < 5; kite++) {
            is("5: " + KITES[kite], Due.told("barge 2 3 4 " + KITES[kite] + " 5").barge(2, 2), kite);
        }
        for (int kind = 0; kind < 3; kind++) {
            is("5: " + REACHES[kind], Due.told(REACHES[kind] + " 3 4").reach(0, 2), kind);
        }
    }

    private static void tokensAreRowsOfOneKind() {
        faultOf("still9", NONE);
        faultOf("open0 1", NONE);
        faultOf("barge 0 1 1plain0", NONE);
        faultOf("wind 5 0 23 79", 12);
        faultOf("open 01", 7);
        faultOf("open 1 2 3", 9);
        faultOf("still 9 9", 8);
        faultOf("still 9..", 7);
        faultOf("..", 0);
        faultOf("dry,,", 3);
        faultOf("opendry", 0);
        faultOf("dry open 0 1", 4);
    }

    private static void blanksAreBetween() {
        for (String line : LINES) {
            faultOf(line.replace(" ", "   "), NONE);
            faultOf("  " + line + "  ", NONE);
            faultOf(line + " ; " + line, NONE);
            faultOf(line.replace(" ", "\t"), line.indexOf(' ') < 0 ? NONE : line.indexOf(' '));
            faultOf(line.replace(" ", "\n"), line.indexOf(' ') < 0 ? NONE : line.indexOf(' '));
            faultOf(line.replace(" ", "\u00a0"), line.indexOf(' ') < 0 ? NONE : line.indexOf(' '));
        }
    }

    // ---- "or at the end, if it comes too soon"

    private static void endComesTooSoon() {
        for (String line : LINES) {
            for (int cut = line.indexOf(' '); cut > 0; cut = line.indexOf(' ', cut + 1)) {
                faultOf(line.substring(0, cut), cut);
                faultOf(line.substring(0, cut + 1), cut + 1);
                faultOf("dry;" + line.substring(0, cut), cut + 4);
                faultOf(line.substring(0, cut) + ";dry", cut);
            }
        }
    }

    private static void firstFaultIsTold() {
        faultOf("open 8 21", 5);
        faultOf("open 7 21;x", 7);
        faultOf("barge 4 61 6 x 100", 6);
        faultOf("wind 6 24 25 8 10", 5);
        faultOf("x y z", 0);
        faultOf("still 3;still 10;still 11", 14);
        KiteBarges x = new KiteBarges();
        Due.write(x, "open 0 1;still 4;barge 0 1 1 plain 1;still 10");
        is("5: a fault in the last line", x.river(), NOT);
        is("5: no line ahead of it is done", x.count(0), 0);
        is("5: nor the next", x.count(2), 2);
        is("5: nor the third", x.count(1), 0);
        is("5: the text is as it was", x.count(4), 45);
        is("5: with its fault", x.fault(), 43);
    }

    // ---- "one REACH more ..; a ninth cannot stand there, at its word; dry: no REACHES"

    private static KiteBarges reaches(int n) {
        KiteBarges x = new KiteBarges();
        for (int i = 0; i < n; i++) {
            Due.tell(x, REACHES[i % 3] + " " + i + " " + (i + 1));
        }
        return x;
    }

    private static void ninthReachHasNoPlace() {
        for (int told = 0; told <= 8; told++) {
            for (int more = 1; more <= 8; more++) {
                for (String word : REACHES) {
                    String line = word + " 0 1";
                    String text = (line + ";").repeat(more - 1) + line;
                    int want = told + more <= 8 ? NONE : (8 - told) * (line.length() + 1);
                    is("4: " + more + " of " + word + " behind " + told, Due.fault(reaches(told), text), want);
                }
            }
        }
        is("4: at its word, not at a number", Due.fault(reaches(8), "lock 8 0"), 0);
        is("4: at its word, not at the end", Due.fault(reaches(8), " trees"), 1);
        is("4: behind another line", Due.fault(reaches(8), "still 3; open 0 1"), 9);
        is("4: other lines are fine", Due.fault(reaches(8), "still 3;sold 0;wind 0 0 0 0 0;barge 0 1 1 plain 0"), NONE);
        KiteBarges x = reaches(8);
        Due.write(x, "still 7;open 0 20");
        is("5: a ninth", x.river(), NOT);
        is("5: eight", x.count(0), 8);
        is("5: the last of them", x.reach(7, 1), 8);
        is("5: no line is done", x.count(2), 2);
    }

    private static void dryMakesPlace() {
        is("4: dry, and seven", Due.fault(reaches(8), "dry" + ";open 0 1".repeat(7)), NONE);
        is("4: seven, dry", Due.fault(reaches(1), "open 0 1;".repeat(7) + "dry"), NONE);
        is("4: eight, dry", Due.fault(reaches(2), "open 0 1;".repeat(7) + "dry"), 54);
        is("4: dry and dry", Due.fault(reaches(8), "dry;open 0 1;dry;open 0 1"), NONE);
        KiteBarges x = reaches(8);
        is("5: dry, and seven", Due.tell(x, "dry;open 7 9" + ";lock 0 1".repeat(6)), 8);
        is("5: seven", x.count(0), 7);
        is("5: the first is new", x.reach(0, 0), 7);
        is("5: no eighth", x.reach(7, 0), UNKNOWN);
        is("5: an eighth", Due.tell(x, "trees 6 20"), 1);
        is("5: the eighth", x.reach(7, 2), 1);
        is("5: dry", Due.tell(x, "dry"), 1);
        is("5: none", x.count(0), 0);
        is("5: dry without reaches", Due.tell(x, "dry"), 1);
        is("5: none then, too", x.reach(0, 0), UNKNOWN);
    }

    // ---- "LINES are done in their order."

    private static void linesAreDoneInTheirOrder() {
        is("5: dry, a reach", Due.told("open 0 1;dry;lock 3 4").reach(0, 0), 3);
        is("5: a reach, dry", Due.told("open 0 1;dry").count(0), 0);
        is("5: still, still", Due.told("still 9;still 0").count(2), 0);
        is("5: told, sold", Due.told("barge 3 1 1 plain 0;sold 3").count(1), 0);
        is("5: sold, told", Due.told("sold 3;barge 3 1 1 plain 0").count(1), 8);
        is("5: told, told", Due.told("barge 3 1 1 plain 0;barge 3 2 1 plain 0").barge(3, 0), 2);
        is("5: wind, wind", Due.told("wind 0 0 23 1 1;wind 0 0 23 2 2").wind(0, 7, 1), 2);
        KiteBarges x = Due.told("open 0 1;trees 1 2;lock 2 3;open 3 4;trees 4 5;lock 5 6;open 6 7;trees 7 8");
        for (int reach = 0; reach < 8; reach++) {
            is("5: way of " + reach, x.reach(reach, 0), reach);
            is("5: long of " + reach, x.reach(reach, 1), reach + 1);
            is("5: kind of " + reach, x.reach(reach, 2), reach % 3);
        }
    }

    // ---- "wind: of LAYER K in HOURS A to B (B not below A)"

    private static void windIsOfHoursFromTo() {
        int[][] hours = {{0, 0}, {0, 1}, {0, 23}, {5, 5}, {5, 9}, {22, 23}, {23, 23}};
        for (int layer = 0; layer < 6; layer++) {
            for (int[] from : hours) {
                KiteBarges x = Due.told("wind " + layer + " " + from[0] + " " + from[1] + " 7 9");
                for (int hour = 0; hour < 24; hour++) {
                    boolean isIn = hour >= from[0] && hour <= from[1];
                    is("5: way in hour " + hour, x.wind(layer, hour, 0), isIn ? 7 : 0);
                    is("5: strength in hour " + hour, x.wind(layer, hour, 1), isIn ? 9 : 0);
                    is("5: another layer", x.wind((layer + 1) % 6, hour, 1), 0);
                    is("5: the one below", x.wind((layer + 5) % 6, hour, 0), 0);
                }
                Due.tell(x, "wind " + layer + " " + from[1] + " 23 0 0");
                is("5: calm again", x.wind(layer, from[1], 1), 0);
                is("5: and its way", x.wind(layer, from[1], 0), 0);
                is("5: not ahead of it", x.wind(layer, from[0], 1), from[0] == from[1] ? 0 : 9);
            }
        }
    }

    // ---- "barge N is told (anew); sold: it is not told any more"

    private static void bargesAreToldAnewAndSold() {
        KiteBarges x = new KiteBarges();
        for (int barge = 0; barge < 4; barge++) {
            is("5: none told", x.barge(barge, 0), UNKNOWN);
            is("5: sold, not told", Due.tell(x, "sold " + barge), 1);
            is("5: still not told", x.count(1), 0);
            Due.tell(x, "barge " + barge + " 60 5 torn 99");
            is("5: the one", x.count(1), 1 << barge);
            Due.tell(x, "barge " + barge + " 1 1 paired 0");
            int[] want = {1, 1, 1, 0};
            for (int what = 0; what < 4; what++) {
                is("5: told anew " + what, x.barge(barge, what), want[what]);
            }
            Due.tell(x, "sold " + barge + ";sold " + barge);
            is("5: sold", x.barge(barge, 0), UNKNOWN);
            is("5: none", x.count(1), 0);
        }
        Due.tell(x, "barge 0 1 1 plain 0;barge 1 2 1 plain 0;barge 2 3 1 plain 0;barge 3 4 1 plain 0");
        is("5: all", x.count(1), 15);
        Due.tell(x, "sold 0;sold 3");
        is("5: two", x.count(1), 6);
        is("5: as they were", x.barge(1, 0) * 10 + x.barge(2, 0), 23);
    }

    // ---- "Behind them it is HOUR 0, all BARGES are at the begin (REACH 0, YARD 0, LAYER 0), nothing is kept."

    private static void allBeginsBehindAText() {
        KiteBarges x = Due.told("open 0 9;open 4 9;wind 0 0 23 0 3",
                "barge 0 10 5 plain 0;barge 1 5 5 plain 0;barge 2 9 5 plain 0;barge 3 1 5 plain 0");
        for (String text : new String[] {"still 2", "sold 0;barge 0 10 5 plain 0", "wind 5 0 0 0 0", "open 0 9", "dry;open 0 9"}) {
            x.keep(0);
            x.go(2);
            for (int barge = 0; barge < 4; barge++) {
                x.cord(barge, 5);
            }
            x.go(1);
            x.keep(1);
            Due.tell(x, text);
            is("5: hour 0", x.count(3), 0);
            is("16: 0 is not kept", x.back(0), NOT);
            is("16: 1 is not kept", x.back(1), NOT);
            for (int barge = 0; barge < 4; barge++) {
                for (int what = 0; what < 5; what++) {
                    is("5: '" + text + "', at(" + barge + ", " + what + ")", x.at(barge, what), 0);
                }
            }
        }
    }

    private static void cordsBeginInLayer0BehindAText() {
        KiteBarges x = Due.told("open 0 9;barge 0 1 1 plain 0;barge 1 1 2 plain 0;barge 2 1 3 plain 0;barge 3 1 5 slow 0");
        int[] cords = {1, 2, 3, 1};
        for (int time = 0; time < 3; time++) {
            for (int barge = 0; barge < 4; barge++) {
                is("11: more than its cord", x.cord(barge, cords[barge] + 1), OUTSIDE);
                is("11: as much as its cord", x.cord(barge, cords[barge]), cords[barge]);
            }
            x.go(1 + time);
            for (int barge = 0; barge < 4; barge++) {
                is("11: one more behind an hour", x.cord(barge, cords[barge] + 1), 1);
            }
            x.go(1);
            Due.tell(x, "still " + time);
        }
    }

    private static void faultChangesNothing() {
        KiteBarges x = Due.told("still 5");
        Due.write(x, "still 7;still x");
        for (int time = 0; time < 3; time++) {
            is("4: again", x.fault(), 14);
            is("4: its bytes", x.count(4), 15);
            is("4: still", x.count(2), 5);
        }
        x.erase();
        Due.write(x, "still 7");
        is("4: none", x.fault(), NONE);
        is("4: again none", x.fault(), NONE);
        is("4: not done", x.count(2), 5);
        is("5: done", x.river(), 1);
        is("5: still", x.count(2), 7);
        is("5: nothing is left to do", x.river(), NOT);
    }

    // ---- all of these against the rules by tables

    private static final String SIGNS = " ;09128az-A/:`{\0\t.\u00ff";

    private static void everyEditOfALine() {
        TextModel model = new TextModel();
        for (String one : LINES) {
            for (String text : new String[] {one, one + ";" + one, "still 3 ;  " + one}) {
                for (int place = 0; place <= text.length(); place++) {
                    String ahead = text.substring(0, place);
                    edited(model, ahead);
                    edited(model, text.substring(place));
                    for (int i = 0; i < SIGNS.length(); i++) {
                        edited(model, ahead + SIGNS.charAt(i) + text.substring(place));
                        if (place < text.length()) {
                            edited(model, ahead + SIGNS.charAt(i) + text.substring(place + 1));
                        }
                    }
                }
            }
        }
    }

    private static void edited(TextModel model, String text) {
        faultOf(text, model.faultOf(text));
    }

    private static void textsAtRandom() {
        for (int seed = 0; seed < 400; seed++) {
            Random random = new Random(seed);
            KiteBarges x = new KiteBarges();
            TextModel model = new TextModel();
            for (int i = 0; i < 12; i++) {
                String text = Texts.wild(random);
                text = text.substring(0, Math.min(200, text.length()));
                Due.write(x, text);
                int fault = model.faultOf(text);
                is("4: seed " + seed + ", '" + text + "'", x.fault(), fault);
                is("5: seed " + seed + ", '" + text + "'", x.river(), fault == NONE ? model.done(text) : NOT);
                x.erase();
            }
            sameTold(x, model, seed, random);
        }
    }

    private static void sameTold(KiteBarges x, TextModel model, int seed, Random random) {
        String what = "5: seed " + seed + ", ";
        int[] counts = {model.reaches.size(), model.toldBits(), model.still, 0, 0, model.wholeLength()};
        for (int i = 0; i < 6; i++) {
            is(what + "count(" + i + ")", x.count(i), counts[i]);
        }
        for (int reach = 0; reach < 8; reach++) {
            for (int i = 0; i < 3; i++) {
                int want = reach < model.reaches.size() ? model.reaches.get(reach)[i] : UNKNOWN;
                is(what + "reach(" + reach + ", " + i + ")", x.reach(reach, i), want);
            }
        }
        for (int barge = 0; barge < 4; barge++) {
            for (int i = 0; i < 4; i++) {
                int want = model.barges[barge] == null ? UNKNOWN : model.barges[barge][i];
                is(what + "barge(" + barge + ", " + i + ")", x.barge(barge, i), want);
            }
        }
        int hour = random.nextInt(24);
        for (int layer = 0; layer < 6; layer++) {
            is(what + "way", x.wind(layer, hour, 0), model.wind[layer][hour][0]);
            is(what + "strength", x.wind(layer, hour, 1), model.wind[layer][hour][1]);
        }
    }
}
