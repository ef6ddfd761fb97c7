/** Each promise of the document: ordinary inputs, edges, wrong inputs. */
public final class PromisesTest {
    private static final int NONE = -1, UNKNOWN = -2, OUTSIDE = -3, NOT = -4, FULL = -5;
    private static final Due DUE = new Due();

    public static void main(String[] args) {
        newObject();
        write();
        erase();
        faultsOfLines();
        faultsOfTokens();
        faultsOfReaches();
        river();
        reach();
        wind();
        barge();
        as();
        yards();
        cord();
        cordIsSlow();
        go();
        locks();
        at();
        knots();
        keepAndBack();
        soonest();
        soonestChoosesCordThenLayers();
        clear();
        clearWaits();
        odds();
        sight();
        blind();
        worth();
        foundAndFirst();
        books();
        count();
        DUE.end();
    }

    private static void is(String what, long got, long want) {
        DUE.is(what, got, want);
    }

    private static void newObject() {
        KiteBarges x = new KiteBarges();
        for (int what = 0; what <= 5; what++) {
            is("1: count(" + what + ")", x.count(what), what == 2 ? 2 : 0);
        }
        for (int layer = 0; layer < 6; layer++) {
            for (int hour = 0; hour < 24; hour++) {
                is("1: wind way", x.wind(layer, hour, 0), 0);
                is("1: wind strength", x.wind(layer, hour, 1), 0);
            }
        }
        for (int i = -1; i <= 4; i++) {
            is("1: no barge " + i, x.barge(i, 0), UNKNOWN);
            is("1: no reach " + i, x.reach(i, 0), UNKNOWN);
        }
        is("1: an empty text ends too soon", x.fault(), 0);
        is("1: no text to do", x.river(), NOT);
        is("1: NONE", KiteBarges.NONE, NONE);
        is("1: UNKNOWN", KiteBarges.UNKNOWN, UNKNOWN);
        is("1: OUTSIDE", KiteBarges.OUTSIDE, OUTSIDE);
        is("1: NOT", KiteBarges.NOT, NOT);
        is("1: FULL", KiteBarges.FULL, FULL);
    }

    private static void write() {
        KiteBarges x = new KiteBarges();
        is("2: n 0", x.write('d', 0), OUTSIDE);
        is("2: n 9", x.write('d', 9), OUTSIDE);
        is("2: n below", x.write('d', Integer.MIN_VALUE), OUTSIDE);
        is("2: nothing was written", x.count(4), 0);
        // Bytes above the n-th are not written, and the first byte is the lowest.
        is("2: three bytes", x.write('d' | 'r' << 8 | 'y' << 16 | 'x' << 24, 3), 3);
        is("2: they are dry", x.fault(), NONE);
        is("2: a byte of 255 in a long below 0", x.write(-1L, 1), 4);
        is("2: it cannot stand there", x.fault(), 3);
        x.erase();
        for (int i = 1; i <= 25; i++) {
            is("2: eight more", x.write(0x2020202020202020L, 8), 8 * i);
        }
        is("2: full", x.write(32, 1), FULL);
        is("2: OUTSIDE ahead of FULL", x.write(32, 0), OUTSIDE);
        is("2: 200 bytes", x.count(4), 200);
        x.erase();
        for (int i = 0; i < 24; i++) {
            x.write(0x2020202020202020L, 8);
        }
        x.write(0x20202020L, 4);
        is("2: five more than 200 hold", x.write(0, 5), FULL);
        is("2: nothing of them was written", x.count(4), 196);
        is("2: four more", x.write(0, 4), 200);
    }

    private static void erase() {
        KiteBarges x = Due.told("open 0 1");
        is("3: empty", x.erase(), 0);
        Due.write(x, "open 1 2;");
        is("3: nine bytes", x.erase(), 9);
        is("3: empty then", x.count(4), 0);
        is("3: again", x.erase(), 0);
        is("3: what was told stays", x.count(0), 1);
    }

    private static void faultOf(String text, int want) {
        is("4: fault of '" + text + "'", Due.fault(new KiteBarges(), text), want);
    }

    private static void faultsOfLines() {
        faultOf("open 7 20", NONE);
        faultOf("open 0 1", NONE);
        faultOf("open 8 1", 5);
        faultOf("open 0 0", 7);
        faultOf("open 0 21", 7);
        faultOf("trees 07 01", NONE);
        faultOf("trees 0 21", 8);
        faultOf("lock 7 20", NONE);
        faultOf("lock 7", 6);
        faultOf("dry", NONE);
        faultOf("dry 0", 4);
        faultOf("wind 5 0 23 7 9", NONE);
        faultOf("wind 5 23 23 0 0", NONE);
        faultOf("wind 6 0 23 7 9", 5);
        faultOf("wind 5 24 24 7 9", 7);
        faultOf("wind 5 7 6 7 9", 9);
        faultOf("wind 5 7 24 7 9", 9);
        faultOf("wind 5 7 7 8 9", 11);
        faultOf("wind 5 7 7 7 10", 13);
        faultOf("wind 5 7 7 7", 12);
        faultOf("barge 3 60 5 torn 99", NONE);
        faultOf("barge 0 1 1 plain 0", NONE);
        faultOf("barge 0 1 1 paired 0;barge 1 1 1 slow 0;barge 2 1 1 sail 0", NONE);
        faultOf("barge 4 60 5 torn 99", 6);
        faultOf("barge 3 0 5 torn 99", 8);
        faultOf("barge 3 61 5 torn 99", 8);
        faultOf("barge 3 60 0 torn 99", 11);
        faultOf("barge 3 60 6 torn 99", 11);
        faultOf("barge 3 60 5 open 99", 13);
        faultOf("barge 3 60 5 4 99", 13);
        faultOf("barge 3 60 5 torn 100", 18);
        faultOf("barge 3 60 5 torn", 17);
        faultOf("sold 3", NONE);
        faultOf("sold 4", 5);
        faultOf("sold", 4);
        faultOf("still 9", NONE);
        faultOf("still 0", NONE);
        faultOf("still 10", 6);
    }

    private static void faultsOfTokens() {
        faultOf("", 0);
        faultOf(";", 0);
        faultOf("dry;", 4);
        faultOf("dry;;dry", 4);
        faultOf("dry;dry", NONE);
        faultOf("dry dry", 4);
        faultOf("dryer", 0);
        faultOf("dr", 0);
        faultOf("Dry", 0);
        faultOf("drY", 0);
        faultOf("dry.", 3);
        faultOf("7", 0);
        faultOf("still nine", 6);
        faultOf("still -1", 6);
        faultOf("still 009", 6);
        faultOf("still 09", NONE);
        faultOf("still\t9", 5);
        faultOf("still \0", 6);
        faultOf("still 9x", 7);
        faultOf("still 9,", 7);
        faultOf("plain", 0);
        faultOf("  dry  ;   still   3  ", NONE);
        faultOf("   ", 3);
        faultOf("open 0  ", 8);
        faultOf("open 0 2000000000", 7);
        faultOf("dry;dry;dry;dry;dry;dry;dry;dry", NONE);
        faultOf("dry;dry;dry;dry;dry;dry;dry;dry;", 31);
        faultOf("dry;dry;dry;dry;dry;dry;dry;dry ;dry", 32);
        faultOf("dry;dry;dry;dry;dry;dry;dry;dry x", 32);
    }

    private static void faultsOfReaches() {
        String four = "open 0 1;trees 1 2;lock 2 3;open 3 4";
        KiteBarges x = Due.told(four, "open 4 5;open 5 6;open 6 7");
        is("4: an eighth reach", Due.fault(x, "lock 0 1"), NONE);
        is("4: a ninth one", Due.fault(x, "open 0 1;trees 0 1"), 9);
        is("4: a ninth one at its word", Due.fault(x, "open 0 1; lock 9 99"), 10);
        is("4: a ninth one behind dry", Due.fault(x, "open 0 1;dry;open 0 1"), NONE);
        is("4: fault changes nothing", x.count(0), 7);
        is("4: nine behind dry", Due.fault(x, "dry;" + four), NONE);
        is("4: another line is fine", Due.fault(x, "open 0 1;still 3"), NONE);
    }

    private static void river() {
        KiteBarges x = new KiteBarges();
        Due.write(x, "open 0 1;still 10");
        is("5: a fault", x.river(), NOT);
        is("5: nothing was done", x.count(0), 0);
        is("5: the text stays", x.count(4), 17);
        x.erase();
        is("5: three lines", Due.tell(x, "open 0 9;barge 1 1 1 plain 1;still 3"), 3);
        is("5: the text is empty", x.count(4), 0);
        is("5: reaches", x.count(0), 1);
        is("5: still", x.count(2), 3);
        x.cord(1, 1);
        x.go(2);
        x.keep(0);
        is("5: lines in their order", Due.tell(x, "still 4;dry;open 1 2;still 5;lock 2 3"), 5);
        is("5: two reaches", x.count(0), 2);
        is("5: the last still", x.count(2), 5);
        is("5: hour 0", x.count(3), 0);
        is("5: reach 0", x.at(1, 0), 0);
        is("5: layer 0", x.at(1, 2), 0);
        is("5: no cord run", x.at(1, 3), 0);
        is("5: no hours stayed", x.at(1, 4), 0);
        is("5: nothing is kept", x.back(0), NOT);
        is("5: sold", Due.tell(x, "sold 1;sold 2"), 2);
        is("5: not told any more", x.barge(1, 0), UNKNOWN);
        is("5: told anew", Due.tell(x, "barge 1 2 3 torn 4;barge 1 5 4 sail 6"), 2);
        is("5: as told last", x.barge(1, 0), 5);
        is("5: a later wind over an earlier one", Due.tell(x, "wind 2 0 23 1 1;wind 2 3 4 5 6"), 2);
        is("5: ahead of it", x.wind(2, 2, 1), 1);
        is("5: in it", x.wind(2, 3, 1), 6);
        is("5: in it, too", x.wind(2, 4, 0), 5);
        is("5: behind it", x.wind(2, 5, 0), 1);
    }

    private static void reach() {
        KiteBarges x = Due.told("open 0 1;trees 7 20;lock 3 9");
        int[][] want = {{0, 1, 0}, {7, 20, 1}, {3, 9, 2}};
        for (int reach = 0; reach < 3; reach++) {
            for (int what = 0; what < 3; what++) {
                is("6: reach(" + reach + ", " + what + ")", x.reach(reach, what), want[reach][what]);
            }
            is("6: what 3", x.reach(reach, 3), OUTSIDE);
            is("6: what -1", x.reach(reach, -1), OUTSIDE);
        }
        is("6: reach 3", x.reach(3, 0), UNKNOWN);
        is("6: reach -1", x.reach(-1, 9), UNKNOWN);
        is("6: reach 8", x.reach(8, 0), UNKNOWN);
        Due.tell(x, "dry");
        is("6: dry", x.reach(0, 0), UNKNOWN);
    }

    private static void wind() {
        KiteBarges x = Due.told("wind 5 22 23 7 9;wind 0 0 0 3 4");
        is("7: way", x.wind(5, 23, 0), 7);
        is("7: strength", x.wind(5, 22, 1), 9);
        is("7: not ahead", x.wind(5, 21, 1), 0);
        is("7: hour 0", x.wind(0, 0, 0), 3);
        is("7: not behind", x.wind(0, 1, 1), 0);
        is("7: layer 6", x.wind(6, 0, 0), UNKNOWN);
        is("7: layer -1", x.wind(-1, 0, 0), UNKNOWN);
        is("7: hour 24", x.wind(0, 24, 7), UNKNOWN);
        is("7: hour -1", x.wind(0, -1, 0), UNKNOWN);
        is("7: what 2", x.wind(0, 0, 2), OUTSIDE);
        is("7: what -1", x.wind(0, 0, -1), OUTSIDE);
    }

    private static void barge() {
        KiteBarges x = Due.told("barge 0 60 5 slow 99;barge 3 1 5 torn 0");
        int[] slow = {60, 1, 2, 99};
        int[] torn = {1, 5, 4, 0};
        for (int what = 0; what < 4; what++) {
            is("8: slow " + what, x.barge(0, what), slow[what]);
            is("8: torn " + what, x.barge(3, what), torn[what]);
        }
        is("8: not told", x.barge(1, 9), UNKNOWN);
        is("8: no such", x.barge(4, 0), UNKNOWN);
        is("8: below", x.barge(-1, 0), UNKNOWN);
        is("8: what 4", x.barge(0, 4), OUTSIDE);
        is("8: what -1", x.barge(0, -1), OUTSIDE);
    }

    private static void as() {
        String[] kites = {"plain", "paired", "slow", "sail", "torn"};
        int[] answers = {1000, 2000, 1000, 1005, 502};
        for (int kite = 0; kite < 5; kite++) {
            KiteBarges x = Due.told("barge 2 7 3 " + kites[kite] + " 1");
            for (int kind = 0; kind < 5; kind++) {
                boolean isSuch = kind == 0 || kind == kite || kind == 3 && kite == 4;
                is("9: " + kites[kite] + " as " + kind, x.as(2, kind), isSuch ? answers[kite] : NOT);
            }
            is("9: kind 5", x.as(2, 5), OUTSIDE);
            is("9: kind -1", x.as(2, -1), OUTSIDE);
            is("9: not told", x.as(1, 9), UNKNOWN);
        }
    }

    private static void yards() {
        KiteBarges x = Due.told("open 0 5;trees 0 20;lock 0 3",
                "wind 0 0 0 0 3;wind 0 1 1 1 3;wind 0 2 2 7 3;wind 0 3 3 2 3;wind 0 4 4 6 3;wind 0 5 5 3 9;wind 0 6 6 4 9",
                "wind 1 0 23 0 4;wind 2 0 23 0 5;wind 5 23 23 0 9");
        Due.tell(x, "barge 0 1 1 plain 0;barge 1 1 1 paired 0;barge 2 1 1 sail 0;barge 3 1 1 torn 0");
        int[][] want = {{30, 21, 21, 0, 0, 0, 0}, {60, 42, 42, 0, 0, 0, 0},
            {30, 21, 21, 15, 15, 0, 0}, {15, 10, 10, 7, 7, 0, 0}};
        for (int barge = 0; barge < 4; barge++) {
            for (int hour = 0; hour < 7; hour++) {
                is("10: yards(" + barge + ", 0, 0, " + hour + ")", x.yards(barge, 0, 0, hour), want[barge][hour]);
            }
        }
        is("10: trees, layer 0", x.yards(0, 1, 0, 0), 30);
        is("10: trees, layer 1", x.yards(0, 1, 1, 0), 40);
        is("10: trees, layer 2", x.yards(0, 1, 2, 0), 0);
        is("10: open, layer 2", x.yards(0, 0, 2, 0), 50);
        is("10: locks are not asked", x.yards(0, 2, 2, 0), 50);
        is("10: the last hour and layer", x.yards(0, 0, 5, 23), 90);
        is("10: no such reach", x.yards(0, 3, 0, 0), UNKNOWN);
        is("10: reach -1", x.yards(0, -1, 0, 0), UNKNOWN);
        is("10: no such layer", x.yards(0, 0, 6, 0), UNKNOWN);
        is("10: no such hour", x.yards(0, 0, 0, 24), UNKNOWN);
        is("10: no such barge", x.yards(4, 0, 0, 0), UNKNOWN);
        Due.tell(x, "barge 0 4 1 plain 0;barge 3 4 1 torn 0;sold 1;dry;open 1 5");
        is("10: by its weight, cut", x.yards(0, 0, 0, 0), 5);
        is("10: half, cut, by its weight, cut", x.yards(3, 0, 0, 0), 2);
        is("10: sold", x.yards(1, 0, 0, 0), UNKNOWN);
        Due.tell(x, "dry;open 7 5");
        is("10: way 7 and 0 are an eighth apart", x.yards(0, 0, 0, 0), 5);
        is("10: way 7 and 1 are two apart", x.yards(3, 0, 0, 1), 1);
    }

    private static void cord() {
        KiteBarges x = Due.told("open 0 9;barge 0 1 2 plain 0;barge 1 1 5 plain 0");
        is("11: to the same", x.cord(0, 0), 0);
        is("11: two up", x.cord(0, 2), 2);
        is("11: off the last hour's", x.cord(0, 3), OUTSIDE);
        is("11: one down", x.cord(0, 1), 1);
        is("11: one up", x.cord(0, 2), 1);
        is("11: no layer", x.cord(1, 6), OUTSIDE);
        is("11: no layer below", x.cord(1, -1), OUTSIDE);
        is("11: a layer far below", x.cord(1, Integer.MIN_VALUE), OUTSIDE);
        is("11: five up", x.cord(1, 5), 5);
        is("11: not told", x.cord(2, 9), UNKNOWN);
        is("11: cord run", x.at(0, 3), 4);
        x.go(1);
        is("11: two up of the last hour's", x.cord(0, 4), 2);
        is("11: three down of that", x.cord(0, 1), 3);
        is("11: cord run, too", x.at(0, 3), 9);
        x.go(23);
        is("11: no hours left", x.cord(0, 1), NOT);
        is("11: OUTSIDE ahead of NOT", x.cord(0, 4), OUTSIDE);
        Due.tell(x, "wind 0 0 23 0 1");
        x.go(1);
        is("11: there", x.cord(0, 0), NOT);
        is("11: there, and OUTSIDE", x.cord(0, 5), OUTSIDE);
    }

    private static void cordIsSlow() {
        KiteBarges x = Due.told("open 0 9;barge 0 1 5 slow 0");
        is("11: a slow one by two", x.cord(0, 2), OUTSIDE);
        is("11: a slow one by one", x.cord(0, 1), 1);
        x.go(1);
        is("11: a slow one on", x.cord(0, 2), 1);
        is("11: a slow one's cord run", x.at(0, 3), 2);
    }

    private static void go() {
        KiteBarges x = Due.told("open 0 10;open 2 10;wind 0 0 23 0 3;wind 1 0 23 2 9;barge 0 10 5 plain 0");
        is("12: n 0", x.go(0), OUTSIDE);
        is("12: n 25", x.go(25), OUTSIDE);
        is("12: n below", x.go(-1), OUTSIDE);
        is("12: nothing has gone", x.count(3), 0);
        is("12: three hours", x.go(3), 3);
        is("12: nine yards", x.at(0, 1), 9);
        is("12: one more", x.go(1), 4);
        is("12: the next reach", x.at(0, 0), 1);
        is("12: its yard 0, no farther", x.at(0, 1), 0);
        x.cord(0, 1);
        is("12: in another layer", x.go(1), 5);
        is("12: nine yards there", x.at(0, 1), 9);
        is("12: 24, but 19 are left", x.go(24), 24);
        is("12: there", x.at(0, 0), NONE);
        is("12: none are left", x.go(1), 24);
        is("12: none are left, n 24", x.go(24), 24);
        is("12: OUTSIDE then, too", x.go(0), OUTSIDE);
    }

    private static void locks() {
        KiteBarges x = Due.told("lock 0 10;open 0 1;wind 0 0 2 4 3;wind 0 3 3 4 2;wind 0 4 23 0 9;wind 1 0 23 0 6",
                "barge 0 10 5 plain 0");
        x.cord(0, 1);
        x.go(2);
        is("12: held by a lock", x.at(0, 0), 0);
        is("12: at its last yard", x.at(0, 1), 9);
        x.go(1);
        is("12: still held", x.at(0, 1), 9);
        is("12: it stayed", x.at(0, 4), 1);
        x.go(1);
        is("12: STILL at most", x.at(0, 0), 1);
        is("12: behind the lock", x.at(0, 1), 0);
        Due.tell(x, "dry;lock 0 10;still 0");
        x.cord(0, 1);
        x.go(3);
        is("12: 2 is above 0", x.at(0, 0), 0);
        Due.tell(x, "still 3");
        x.cord(0, 1);
        x.go(2);
        is("12: a last lock is passed", x.at(0, 0), NONE);
        Due.tell(x, "dry;lock 0 1;still 2");
        x.cord(0, 1);
        x.go(1);
        is("12: held at yard 0", x.at(0, 4), 1);
    }

    private static void at() {
        KiteBarges x = Due.told("open 0 5;open 4 5;wind 0 0 0 0 2;wind 0 2 2 0 9;wind 3 5 5 4 9;barge 2 10 5 plain 0");
        is("13: reach", x.at(2, 0), 0);
        x.go(1);
        is("13: yard", x.at(2, 1), 2);
        is("13: went", x.at(2, 4), 0);
        x.cord(2, 1);
        is("13: layer as it is now", x.at(2, 2), 1);
        is("13: cord run as it is now", x.at(2, 3), 1);
        x.go(1);
        is("13: stayed, in another layer", x.at(2, 4), 1);
        x.cord(2, 0);
        x.go(1);
        is("13: reach 1", x.at(2, 0), 1);
        is("13: it went", x.at(2, 4), 1);
        x.cord(2, 3);
        x.go(3);
        is("13: there", x.at(2, 0), NONE);
        is("13: yard there", x.at(2, 1), 0);
        is("13: layer there", x.at(2, 2), 3);
        is("13: cord run there", x.at(2, 3), 5);
        is("13: stayed two more", x.at(2, 4), 3);
        x.go(18);
        is("13: there one does not stay", x.at(2, 4), 3);
        is("13: what 5", x.at(2, 5), OUTSIDE);
        is("13: what -1", x.at(2, -1), OUTSIDE);
        is("13: not told", x.at(0, 9), UNKNOWN);
        Due.tell(x, "dry");
        is("13: there at once", x.at(2, 0), NONE);
        is("13: layer 0", x.at(2, 2), 0);
    }

    private static void knots() {
        KiteBarges x = Due.told("open 0 5;open 0 9;wind 0 0 23 0 2;barge 0 10 5 plain 0;barge 1 20 5 plain 0;barge 3 7 5 plain 0");
        is("14: all at the begin", x.knots(0), 10);
        is("14: not itself", x.knots(3), 3);
        is("14: not told", x.knots(2), UNKNOWN);
        is("14: no such", x.knots(4), UNKNOWN);
        x.cord(1, 1);
        is("14: in another layer", x.knots(0), 8);
        x.cord(1, 0);
        x.go(1);
        is("14: one yard apart, and none", x.knots(0), 10);
        x.go(1);
        is("14: yards 4, 2, 4", x.knots(0), 8);
        is("14: two yards apart", x.knots(1), 0);
        x.go(1);
        is("14: reaches 1, 0, 1", x.knots(0), 8);
        is("14: yard 3 of another reach", x.knots(1), 0);
        // Yard 4 of reach 0 and yard 0 of reach 1 are not in one reach.
        x.go(1);
        is("14: the end of a reach", x.at(1, 1), 4);
        x.go(20);
        is("14: all are there", x.knots(0), 0);
        // 7 times 7, twice, by 5: yard 19 of reach 0; by 1: yard 0 of reach 1.
        KiteBarges y = Due.told("open 0 20;open 0 9;wind 0 0 23 1 7;barge 0 5 1 paired 0;barge 1 1 1 paired 0");
        y.go(1);
        is("14: at the last of the yards", y.at(0, 1), 19);
        is("14: in the next reach", y.at(1, 0), 1);
        is("14: not in one reach", y.knots(0), 0);
        is("14: nor the other way round", y.knots(1), 0);
    }

    private static void keepAndBack() {
        KiteBarges x = new KiteBarges();
        is("15: k 2", x.keep(2), UNKNOWN);
        is("15: k -1", x.keep(-1), UNKNOWN);
        is("16: k 2", x.back(2), UNKNOWN);
        is("16: k -1", x.back(-1), UNKNOWN);
        is("16: nothing kept", x.back(0), NOT);
        x.go(3);
        is("15: kept without a text", x.keep(1), 3);
        x.go(1);
        is("16: back without a text", x.back(1), 3);
        Due.tell(x, "open 0 9;open 4 9;wind 0 0 23 0 2;barge 0 10 2 plain 0");
        is("16: kept ahead of the last text", x.back(1), NOT);
        x.cord(0, 2);
        x.cord(0, 0);
        x.go(1);
        x.cord(0, 1);
        is("15: hours", x.keep(0), 1);
        is("16: the other one", x.back(1), NOT);
        x.cord(0, 2);
        x.go(4);
        is("15: other hours", x.keep(1), 5);
        is("16: hours", x.back(0), 1);
        is("16: counted", x.count(3), 1);
        is("16: yard", x.at(0, 1), 2);
        is("16: layer", x.at(0, 2), 1);
        is("16: cord run", x.at(0, 3), 5);
        is("16: stayed", x.at(0, 4), 0);
        is("16: the last hour's layer", x.cord(0, 3), OUTSIDE);
        is("16: the other hours", x.back(1), 5);
        is("16: the other stayed", x.at(0, 4), 4);
        is("16: the last hour's layer there", x.cord(0, 4), 2);
        is("16: again", x.back(0), 1);
        x.go(23);
        is("15: kept anew", x.keep(0), 24);
        is("16: a fault keeps what is kept", x.river(), NOT);
        is("16: anew", x.back(0), 24);
    }

    private static void soonest() {
        KiteBarges x = Due.told("barge 0 10 2 plain 3");
        is("17: without reaches", x.soonest(0, 23, -2), 0);
        is("17: without cord run", x.soonest(0, 23, -1), 0);
        is("17: without layers", x.soonest(0, 23, 0), NONE);
        Due.tell(x, "open 0 10;wind 4 0 23 0 9;wind 2 0 23 0 5");
        is("17: hours", x.soonest(0, 0, -2), 2);
        is("17: cord run", x.soonest(0, 0, -1), 2);
        is("17: first layer", x.soonest(0, 0, 0), 2);
        is("17: last layer", x.soonest(0, 0, 1), 2);
        is("17: not so many", x.soonest(0, 0, 2), NONE);
        is("17: far more", x.soonest(0, 0, Integer.MAX_VALUE), NONE);
        is("17: i -3", x.soonest(0, 0, -3), OUTSIDE);
        is("17: i far below", x.soonest(0, 0, Integer.MIN_VALUE), OUTSIDE);
        is("17: the last hours", x.soonest(0, 22, -2), 2);
        is("17: too late", x.soonest(0, 23, -2), NONE);
        is("17: too late for cord run", x.soonest(0, 23, -1), NONE);
        is("17: too late for layers", x.soonest(0, 23, 0), NONE);
        is("17: hour 24", x.soonest(0, 24, -2), UNKNOWN);
        is("17: hour -1", x.soonest(0, -1, -9), UNKNOWN);
        is("17: not told", x.soonest(1, 0, -9), UNKNOWN);
        x.cord(0, 1);
        x.go(1);
        is("17: from the begin, wherever it is", x.soonest(0, 0, -2), 2);
        is("17: nothing changes", x.at(0, 2), 1);
        Due.tell(x, "wind 2 0 9 0 0;wind 1 9 9 0 9;wind 2 10 23 0 9");
        is("17: by layer 2 to layer 4", x.soonest(0, 2, -2), 3);
        is("17: in layer 4", x.soonest(0, 2, 2), 4);
        is("17: a long row", Due.tell(x, "dry;open 0 20;wind 0 0 23 0 1;wind 1 0 23 0 0;wind 2 0 23 0 0;wind 4 0 23 0 0"), 6);
        is("17: 20 hours", x.soonest(0, 4, -2), 20);
        is("17: 20 hours are not left", x.soonest(0, 5, -2), NONE);
        Due.tell(x, "open 0 4");
        is("17: all 24 hours", x.soonest(0, 0, -2), 24);
        is("17: the 24th layer", x.soonest(0, 0, 23), 0);
        is("17: no 25th", x.soonest(0, 0, 24), NONE);
    }

    private static void soonestChoosesCordThenLayers() {
        // Down from layer 3 by 2, up to it by 4: both run as much, 2 is the first.
        KiteBarges z = Due.told("open 0 5;open 2 5;barge 0 10 5 plain 0;wind 3 0 0 0 5;wind 2 1 1 2 5;wind 4 1 1 2 5");
        Due.tell(z, "open 4 5;wind 1 2 2 4 5;wind 3 2 2 4 5");
        is("17: as much cord run", z.soonest(0, 0, -1), 5);
        is("17: first by layers", z.soonest(0, 0, 1), 2);
        is("17: then by layers", z.soonest(0, 0, 2), 1);
        // Layers 1 and 3 go through reach 0, 2 and 3 through reach 1: by 3 and 3 it is 3, by 1 and 2 it is 2.
        KiteBarges x = Due.told("open 0 5;open 2 5;barge 0 10 5 plain 0;barge 1 10 1 plain 0",
                "wind 1 0 23 0 5;wind 3 0 0 0 5;wind 3 1 23 2 5;wind 2 0 23 2 5");
        is("17: least cord run", x.soonest(0, 0, -1), 2);
        is("17: layer 1", x.soonest(0, 0, 0), 1);
        is("17: layer 2", x.soonest(0, 0, 1), 2);
        // The first row by layers: an hour of waiting is in layer 0 as long as that runs no more cord.
        Due.tell(x, "wind 1 0 0 0 0;wind 3 0 0 0 0");
        is("17: hours with an hour to wait", x.soonest(1, 0, -2), 3);
        is("17: cord run with it", x.soonest(1, 0, -1), 2);
        is("17: it waits in layer 0", x.soonest(1, 0, 0), 0);
        is("17: then layer 1", x.soonest(1, 0, 1), 1);
        is("17: then layer 2", x.soonest(1, 0, 2), 2);
        // With cord of 1 layer 3 is three hours away.
        KiteBarges y = Due.told("open 0 5;wind 3 0 23 0 9;barge 0 10 1 plain 0;barge 1 10 5 slow 0;barge 2 10 2 plain 0");
        is("17: cord 1", y.soonest(0, 0, -2), 3);
        is("17: slow", y.soonest(1, 0, -2), 3);
        is("17: cord 2", y.soonest(2, 0, -2), 2);
        is("17: cord 2, layer 1 ahead of 2", y.soonest(2, 0, 0), 1);
    }

    private static void clear() {
        KiteBarges x = Due.told("open 0 10;wind 0 0 23 0 1;wind 1 0 23 0 1;barge 0 10 5 plain 0;barge 1 5 5 plain 0");
        is("18: the other one", x.soonest(0, 0, -2), 10);
        is("18: alone", x.soonest(1, 0, -2), 5);
        // Barge 0 is at yard h + 1 behind hour h, barge 1 in the same layer at 2 h: it has to pass in layer 1.
        is("18: as soon", x.clear(1, 0, -2), 5);
        is("18: by cord run", x.clear(1, 0, -1), 1);
        is("18: in layer 1 first", x.clear(1, 0, 0), 1);
        is("18: and on", x.clear(1, 0, 4), 1);
        is("18: not so many", x.clear(1, 0, 5), NONE);
        is("18: i -3", x.clear(1, 0, -3), OUTSIDE);
        is("18: one and itself", x.clear(1, 1, -2), OUTSIDE);
        is("18: unknown and itself", x.clear(2, 2, -2), UNKNOWN);
        is("18: unknown other", x.clear(0, 2, -9), UNKNOWN);
        is("18: unknown barge", x.clear(-1, 0, -2), UNKNOWN);
        is("18: the other way round", x.clear(0, 1, -2), 10);
        is("18: no knot, no cord", x.clear(0, 1, -1), 0);
        Due.tell(x, "wind 0 1 23 0 0;wind 1 1 23 0 0");
        is("18: that one has no soonest", x.clear(1, 0, -2), NOT);
        is("18: OUTSIDE ahead of NOT", x.clear(1, 0, -3), OUTSIDE);
        Due.tell(x, "dry");
        is("18: there at once", x.clear(1, 0, -2), 0);
        is("18: without layers", x.clear(1, 0, 0), NONE);
    }

    private static void clearWaits() {
        // Only layer 0 has wind, and cord 1: the slower one ahead is not to be passed but in layer 1, without wind.
        KiteBarges x = Due.told("open 0 20;open 0 1;wind 0 0 23 0 4;barge 0 10 1 plain 0;barge 1 1 1 plain 0;barge 2 20 1 plain 0");
        is("18: barge 0 alone", x.soonest(0, 0, -2), 6);
        is("18: barge 1 overtakes", x.clear(1, 0, -2), 2);
        is("18: barge 2 is slower", x.clear(2, 0, -2), x.soonest(2, 1, -2));
        // Barge 0 is gone behind hour 5: what was its place then is free.
        Due.tell(x, "dry;open 0 5;open 0 1;wind 0 0 23 0 1");
        is("18: 5 and 1 hours", x.soonest(0, 0, -2), 6);
        // Barge 1 comes to reach 1 behind hour 1, is there behind hour 2: barge 0 comes to reach 1 behind hour 4.
        is("18: ahead of it", x.clear(1, 0, -2), 2);
        // A barge at the begin in layer 0 with another one at yard 1 behind hour 1 would be in a knot.
        Due.tell(x, "wind 0 0 0 0 0;wind 0 1 1 0 1;barge 1 60 1 plain 0;wind 0 2 23 0 9");
        is("18: alone it waits in layer 0", x.soonest(1, 1, 0), 0);
        is("18: clear of the other it waits in layer 1", x.clear(1, 0, 0), 1);
    }

    private static final String[] TWO_REACHES = {"open 0 10;open 2 10;wind 0 0 23 0 9;wind 1 0 23 2 9",
        "barge 0 9 5 plain 1;barge 1 60 5 plain 1"};

    private static void odds() {
        KiteBarges x = Due.told(TWO_REACHES);
        is("19: two hours", x.soonest(0, 0, -2), 2);
        is("19: none within 1", x.odds(0, 1, 3, 0), 0);
        is("19: none by 1", x.odds(0, 1, 3, 1), 1);
        is("19: above within 2", x.odds(0, 2, 3, 0), 49);
        is("19: below within 2", x.odds(0, 2, 3, 1), 100);
        // Hour 0 without a lull in layer 0, then one without in hours 1 and 2 in layer 1: 0.7 (1 - 0.09).
        is("19: above within 3", x.odds(0, 3, 3, 0), 637);
        is("19: below within 3", x.odds(0, 3, 3, 1), 1000);
        is("19: lowest terms above", x.odds(0, 2, 5, 0), 1);
        is("19: lowest terms below", x.odds(0, 2, 5, 1), 4);
        is("19: no lulls", x.odds(0, 8, 0, 0), 1);
        is("19: no lulls, below", x.odds(0, 8, 0, 1), 1);
        is("19: lulls alone", x.odds(0, 8, 10, 0), 0);
        is("19: lulls alone, below", x.odds(0, 8, 10, 1), 1);
        is("19: n 0", x.odds(0, 0, 0, 0), 0);
        wrongOdds("19", x.odds(2, 9, 11, 2), x.odds(0, -1, 0, 0), x.odds(0, 9, 0, 0), x.odds(0, 0, -1, 0),
                x.odds(0, 0, 11, 0), x.odds(0, 0, 0, -1), x.odds(0, 0, 0, 2));
        is("19: a heavy one", x.soonest(1, 0, -2), 20);
        is("19: a heavy one within 8", x.odds(1, 8, 1, 0), 0);
        Due.tell(x, "wind 0 1 23 4 9");
        is("19: no soonest", x.odds(1, 8, 1, 0), NOT);
        is("19: OUTSIDE ahead of NOT", x.odds(1, 9, 1, 0), OUTSIDE);
        Due.tell(x, "dry");
        is("19: there at once", x.odds(1, 0, 10, 0), 1);
        is("19: there at once, below", x.odds(1, 8, 3, 1), 1);
    }

    private static void wrongOdds(String promise, long... answers) {
        for (int i = 0; i < answers.length; i++) {
            is(promise + ": wrong input " + i, answers[i], i == 0 ? UNKNOWN : OUTSIDE);
        }
    }

    private static void sight() {
        KiteBarges x = Due.told(TWO_REACHES);
        is("20: within 1", x.sight(0, 1, 3, 0), 0);
        is("20: within 2", x.sight(0, 2, 3, 0), 49);
        // Two of three hours without a lull: 0.343 + 3 * 0.147.
        is("20: above within 3", x.sight(0, 3, 3, 0), 98);
        is("20: below within 3", x.sight(0, 3, 3, 1), 125);
        is("20: no lulls", x.sight(0, 2, 0, 0), 1);
        is("20: lulls alone", x.sight(0, 8, 10, 0), 0);
        is("20: a heavy one", x.sight(1, 8, 1, 0), 0);
        is("20: n 0", x.sight(0, 0, 0, 0), 0);
        wrongOdds("20", x.sight(2, 9, 11, 2), x.sight(0, -1, 0, 0), x.sight(0, 9, 0, 0), x.sight(0, 0, -1, 0),
                x.sight(0, 0, 11, 0), x.sight(0, 0, 0, -1), x.sight(0, 0, 0, 2));
        Due.tell(x, "wind 0 1 23 4 9");
        is("20: without a soonest", x.sight(1, 8, 1, 0), 0);
        // With cord 1 a lull in hour 0 helps to climb: layer 2 alone has wind.
        KiteBarges y = Due.told("open 0 1;wind 2 0 23 0 9;barge 0 1 1 plain 1");
        is("20: cord 1 within 1", y.sight(0, 1, 5, 0), 0);
        is("20: cord 1 within 2, above", y.sight(0, 2, 5, 0), 1);
        is("20: cord 1 within 2, below", y.sight(0, 2, 5, 1), 2);
        Due.tell(y, "dry");
        is("20: there at once", y.sight(0, 0, 10, 0), 1);
    }

    private static void blind() {
        KiteBarges x = Due.told(TWO_REACHES);
        is("21: within 2", x.blind(0, 2, 3, 0), 49);
        // Layers 0, 1, 1 or 0, 0, 1: 0.7 (1 - 0.09).
        is("21: above within 3", x.blind(0, 3, 3, 0), 637);
        is("21: below within 3", x.blind(0, 3, 3, 1), 1000);
        // Layers 0, 0, 1, 1: (1 - 0.09) (1 - 0.09), more than by the layers of its soonest.
        is("21: above within 4", x.blind(0, 4, 3, 0), 8281);
        is("21: below within 4", x.blind(0, 4, 3, 1), 10000);
        is("21: more than odds", x.odds(0, 4, 3, 0), 6811);
        is("21: n 0", x.blind(0, 0, 3, 0), 0);
        is("21: no lulls", x.blind(0, 4, 0, 1), 1);
        is("21: lulls alone", x.blind(0, 4, 10, 0), 0);
        wrongOdds("21", x.blind(2, 9, 11, 2), x.blind(0, -1, 0, 0), x.blind(0, 5, 0, 0), x.blind(0, 0, -1, 0),
                x.blind(0, 0, 11, 0), x.blind(0, 0, 0, -1), x.blind(0, 0, 0, 2));
        KiteBarges y = Due.told("open 0 1;wind 4 0 23 0 9;barge 0 1 2 plain 1;barge 1 1 5 slow 1");
        is("21: cord 2 within 1", y.blind(0, 1, 0, 0), 0);
        is("21: cord 2 within 2", y.blind(0, 2, 0, 0), 1);
        is("21: slow within 3", y.blind(1, 3, 0, 0), 0);
        is("21: slow within 4", y.blind(1, 4, 0, 0), 1);
        Due.tell(y, "dry");
        is("21: there at once", y.blind(0, 0, 10, 0), 1);
    }

    private static void worth() {
        KiteBarges x = Due.told(TWO_REACHES);
        is("22: within 2, above", x.worth(0, 2, 3, 0), 0);
        is("22: within 2, below", x.worth(0, 2, 3, 1), 1);
        // 0.784 less 0.637.
        is("22: within 3, above", x.worth(0, 3, 3, 0), 147);
        is("22: within 3, below", x.worth(0, 3, 3, 1), 1000);
        wrongOdds("22", x.worth(2, 9, 11, 2), x.worth(0, -1, 0, 0), x.worth(0, 5, 0, 0), x.worth(0, 0, -1, 0),
                x.worth(0, 0, 11, 0), x.worth(0, 0, 0, -1), x.worth(0, 0, 0, 2));
        Due.tell(x, "dry");
        is("22: there at once", x.worth(0, 4, 5, 0), 0);
    }

    private static void foundAndFirst() {
        KiteBarges x = Due.told("open 0 10;open 2 10;wind 0 0 23 0 9;wind 1 0 23 2 9",
                "barge 0 9 5 plain 1;barge 1 30 5 plain 1;barge 3 60 5 torn 1");
        is("23: the begin is not behind an hour", x.found(0, 0), 2);
        is("23: barge 1 in layer 1 of reach 1, barge 0 is there then", x.found(1, 1), 2);
        is("23: both behind their first reach", x.found(1, 0), 3);
        is("23: nobody", x.found(0, 1), 0);
        is("23: no such reach", x.found(2, 0), UNKNOWN);
        is("23: reach -1", x.found(-1, 0), UNKNOWN);
        is("23: no such layer", x.found(0, 6), UNKNOWN);
        is("23: layer -1", x.found(0, -1), UNKNOWN);
        is("24: never", x.first(0, 0, 0), NONE);
        is("24: hour 0", x.first(0, 1, 0), 0);
        is("24: hour 0 in reach 0", x.first(1, 0, 0), 0);
        is("24: hour 3", x.first(1, 1, 0), 3);
        is("24: hour 4", x.first(1, 1, 1), 4);
        is("24: without a soonest", x.first(3, 0, 0), NONE);
        is("24: not told", x.first(2, 0, 0), UNKNOWN);
        is("24: no such reach", x.first(0, 2, 0), UNKNOWN);
        is("24: no such layer", x.first(0, 0, 6), UNKNOWN);
        x.go(5);
        is("24: wherever it is", x.first(1, 1, 1), 4);
    }

    private static void books() {
        KiteBarges x = Due.told("barge 0 9 5 plain 7;barge 1 60 5 plain 99;barge 2 25 5 plain 0");
        is("25: no reaches", x.books(0, 0), NOT);
        is("25: OUTSIDE ahead of NOT", x.books(0, 2), OUTSIDE);
        is("25: what -1", x.books(0, -1), OUTSIDE);
        is("25: not told", x.books(3, 2), UNKNOWN);
        Due.tell(x, "open 0 10;wind 0 0 23 0 9");
        is("25: each hour", x.books(0, 0), 24);
        is("25: freight", x.books(0, 1), 168);
        is("25: ten hours each", x.books(1, 0), 2);
        is("25: much freight", x.books(1, 1), 198);
        is("25: no freight", x.books(2, 1), 0);
        is("25: four hours each", x.books(2, 0), 6);
        Due.tell(x, "wind 0 5 21 0 0");
        is("25: hours 0 to 4, 5 to 22, 23", x.books(0, 0), 7);
        Due.tell(x, "wind 0 0 23 4 9");
        is("25: never", x.books(0, 0), 0);
    }

    private static void count() {
        KiteBarges x = Due.told("open 0 10;lock 2 20;still 7;barge 0 1 1 plain 1;barge 3 1 1 plain 1");
        x.go(5);
        Due.write(x, "dry");
        int[] want = {2, 9, 7, 5, 3, 30};
        for (int what = 0; what < 6; what++) {
            is("26: count(" + what + ")", x.count(what), want[what]);
        }
        is("26: what 6", x.count(6), OUTSIDE);
        is("26: what -1", x.count(-1), OUTSIDE);
    }
}
