import java.io.IOException;

/** The document from promise 1 to its last line: each piece that tells of a call, with a test of its own. */
public final class DocumentPromisesTest {
    private static final int NONE = -1, UNKNOWN = -2, OUTSIDE = -3, NOT = -4, FULL = -5;
    private static final Due DUE = new Due();
    private static Document doc;

    public static void main(String[] args) throws IOException {
        doc = new Document(DUE);
        doc.passesUpTo("## Promise 1:");
        aNewObject();
        theText();
        reachAndWind();
        bargeAndAs();
        yardsAndCord();
        goAndAt();
        knotsKeepAndBack();
        plans();
        odds();
        foundAndFirst();
        booksAndCount();
        doc.goesOnWith("## Not promised");
        DUE.end();
    }

    private static void is(String what, long got, long want) {
        doc.is(what, got, want);
    }

    /** Eight blanks. */
    private static final long BLANKS = 0x2020202020202020L;

    private static void aNewObject() {
        doc.passes("## Promise 1: A new object `KiteBarges()`:");
        doc.says("No REACHES, no WIND, no BARGES.", () -> {
            KiteBarges x = new KiteBarges();
            is("reaches", x.count(0), 0);
            is("barges", x.count(1), 0);
            for (int layer = 0; layer < 6; layer++) {
                for (int hour = 0; hour < 24; hour++) {
                    is("way", x.wind(layer, hour, 0), 0);
                    is("strength", x.wind(layer, hour, 1), 0);
                }
            }
        });
    }

    private static void theText() {
        doc.passes("## Promise 2: write `int write(long bytes, int n)`:");
        doc.says("n (1 .. 8) bytes more of THE TEXT,", () -> {
            KiteBarges x = new KiteBarges();
            int length = 0;
            for (int n = 1; n <= 8; n++) {
                length += n;
                is("n " + n, x.write(BLANKS, n), length);
            }
        });
        doc.says("byte i being bytes >> 8 i & 255:", () -> {
            KiteBarges x = new KiteBarges();
            // "still 07" from its last byte down to its first.
            long bytes = '7';
            for (char sign : "0 llits".toCharArray()) {
                bytes = bytes << 8 | sign;
            }
            x.write(bytes, 8);
            is("done", x.river(), 1);
            is("still 7", x.count(2), 7);
            x.write(-1L, 1);
            is("a byte of 255 is none that can stand there", x.fault(), 0);
        });
        doc.says("how many it has.", () -> {
            KiteBarges x = new KiteBarges();
            is("five", x.write(BLANKS, 5), 5);
            is("and three", x.write(BLANKS, 3), 8);
            is("counted", x.count(4), 8);
        });
        doc.says("OUTSIDE;", () -> {
            is("n 0", new KiteBarges().write(BLANKS, 0), OUTSIDE);
            is("n 9", new KiteBarges().write(BLANKS, 9), OUTSIDE);
        });
        doc.says("FULL.", () -> {
            KiteBarges x = new KiteBarges();
            Due.write(x, " ".repeat(198));
            is("three more", x.write(BLANKS, 3), FULL);
            is("two more", x.write(BLANKS, 2), 200);
            is("one more", x.write(BLANKS, 1), FULL);
        });
        doc.passes("## Promise 3: erase `int erase()`:");
        doc.says("THE TEXT is empty:", () -> {
            KiteBarges x = new KiteBarges();
            Due.write(x, "shut 3");
            x.erase();
            is("its bytes", x.count(4), 0);
            Due.write(x, "dry");
            is("nothing of it is left", x.river(), 1);
        });
        doc.says("how many bytes it had.", () -> {
            KiteBarges x = new KiteBarges();
            Due.write(x, "shut 3");
            is("six", x.erase(), 6);
            is("none", x.erase(), 0);
        });
        doc.passes("## Promise 4: fault `int fault()`:");
        doc.says("The place of the FAULT (the byte with which the TOKEN begins, or the length);", () -> {
            is("a word", Due.fault(new KiteBarges(), "dry;   shut 3"), 7);
            is("a number", Due.fault(new KiteBarges(), "dry;still   10"), 12);
            is("the length", Due.fault(new KiteBarges(), "dry;still   "), 12);
        });
        doc.says("NONE.", () -> {
            KiteBarges x = new KiteBarges();
            Due.write(x, "dry;still 9");
            is("no fault", x.fault(), NONE);
            is("nothing is done", x.count(2), 2);
        });
        doc.passes("## Promise 5: river `int river()`:");
        doc.says("THE TEXT's LINES are done, and it is empty then:", () -> {
            KiteBarges x = new KiteBarges();
            Due.write(x, "still 9;open 6 5;barge 3 1 1 plain 1");
            x.river();
            is("still", x.count(2), 9);
            is("way", x.reach(0, 0), 6);
            is("barges", x.count(1), 8);
            is("empty", x.count(4), 0);
        });
        doc.says("how many there were.", () -> {
            is("one", Due.tell(new KiteBarges(), "dry"), 1);
            is("three", Due.tell(new KiteBarges(), "dry;sold 1;still 3"), 3);
            is("eight", Due.tell(new KiteBarges(), "dry" + ";dry".repeat(7)), 8);
        });
        doc.says("NOT: it has a FAULT.", () -> {
            KiteBarges x = new KiteBarges();
            is("an empty text", x.river(), NOT);
            Due.write(x, "still 9;still 10");
            is("a number", x.river(), NOT);
            is("no line is done", x.count(2), 2);
            is("the text is as it was", x.count(4), 16);
        });
    }

    private static void reachAndWind() {
        doc.passes("## Promise 6: reach `int reach(int reach, int what)`:");
        doc.says("Of a REACH: WAY (what 0), LONG (1), 0 OPEN, 1 TREES, 2 LOCK (2).", () -> {
            KiteBarges x = Due.told("lock 5 17;open 6 18;trees 7 19");
            int[][] want = {{5, 17, 2}, {6, 18, 0}, {7, 19, 1}};
            for (int reach = 0; reach < 3; reach++) {
                for (int what = 0; what < 3; what++) {
                    is("reach " + reach + ", what " + what, x.reach(reach, what), want[reach][what]);
                }
            }
        });
        doc.says("UNKNOWN;", () -> {
            is("the second of one", Due.told("open 0 1").reach(1, 0), UNKNOWN);
            is("below 0", Due.told("open 0 1").reach(-1, 0), UNKNOWN);
        });
        doc.says("OUTSIDE.", () -> {
            is("what 3", Due.told("open 0 1").reach(0, 3), OUTSIDE);
            is("what -1", Due.told("open 0 1").reach(0, -1), OUTSIDE);
        });
        doc.passes("## Promise 7: wind `int wind(int layer, int hour, int what)`:");
        doc.says("WIND: WAY (what 0), STRENGTH (1).", () -> {
            KiteBarges x = Due.told("wind 2 11 12 7 8");
            is("way", x.wind(2, 11, 0), 7);
            is("strength", x.wind(2, 12, 1), 8);
            is("an hour ahead", x.wind(2, 10, 1), 0);
            is("an hour behind", x.wind(2, 13, 0), 0);
        });
        doc.says("UNKNOWN;", () -> {
            is("layer 6", new KiteBarges().wind(6, 0, 0), UNKNOWN);
            is("hour 24", new KiteBarges().wind(0, 24, 0), UNKNOWN);
        });
        doc.says("OUTSIDE.", () -> {
            is("what 2", new KiteBarges().wind(5, 23, 2), OUTSIDE);
            is("what -1", new KiteBarges().wind(5, 23, -1), OUTSIDE);
        });
    }

    private static void bargeAndAs() {
        doc.passes("## Promise 8: barge `int barge(int barge, int what)`:");
        doc.says("Of a BARGE: WEIGHT (what 0), CORD (1; of a SLOW one 1), KITE (2), FREIGHT (3).", () -> {
            KiteBarges x = Due.told("barge 1 37 4 sail 88;barge 2 38 4 slow 89");
            int[][] want = {{37, 4, 3, 88}, {38, 1, 2, 89}};
            for (int what = 0; what < 4; what++) {
                is("a sail, what " + what, x.barge(1, what), want[0][what]);
                is("a slow one, what " + what, x.barge(2, what), want[1][what]);
            }
        });
        doc.says("UNKNOWN;", () -> {
            is("not told", Due.told("barge 1 37 4 sail 88").barge(2, 0), UNKNOWN);
            is("no such", Due.told("barge 1 37 4 sail 88").barge(4, 0), UNKNOWN);
        });
        doc.says("OUTSIDE.", () -> {
            is("what 4", Due.told("barge 1 37 4 sail 88").barge(1, 4), OUTSIDE);
            is("what -1", Due.told("barge 1 37 4 sail 88").barge(1, -1), OUTSIDE);
        });
        doc.passes("## Promise 9: as `int as(int barge, int kind)`:");
        KiteBarges[] x = {Due.told("barge 0 60 1 plain 0;barge 1 60 1 slow 0;barge 2 60 1 sail 0;barge 3 60 1 torn 0"),
            Due.told("barge 0 60 1 paired 0")};
        doc.says("A KITE taken as a kind: 0 any, 1 PAIRED, 2 SLOW, 3 SAIL (a TORN one is one, too), 4 TORN:", () -> {
            for (int barge = 0; barge < 4; barge++) {
                is("any", x[0].as(barge, 0) > 0 ? 1 : 0, 1);
            }
            is("a paired one", x[1].as(0, 1) > 0 ? 1 : 0, 1);
            is("a slow one", x[0].as(1, 2) > 0 ? 1 : 0, 1);
            is("a sail", x[0].as(2, 3) > 0 ? 1 : 0, 1);
            is("a torn one is a sail, too", x[0].as(3, 3) > 0 ? 1 : 0, 1);
            is("a torn one", x[0].as(3, 4) > 0 ? 1 : 0, 1);
        });
        doc.says("of what it is PULLED by STRENGTH 1 straight, across (two off): 100 times the first and the second.", () -> {
            is("plain", x[0].as(0, 0), 1000);
            is("paired", x[1].as(0, 1), 2000);
            is("slow", x[0].as(1, 2), 1000);
            is("sail", x[0].as(2, 3), 1005);
            is("torn", x[0].as(3, 4), 502);
            is("torn, as a sail", x[0].as(3, 3), 502);
        });
        doc.says("UNKNOWN;", () -> is("not told", x[1].as(1, 0), UNKNOWN));
        doc.says("OUTSIDE;", () -> {
            is("kind 5", x[1].as(0, 5), OUTSIDE);
            is("kind -1", x[1].as(0, -1), OUTSIDE);
        });
        doc.says("NOT: it is none such.", () -> {
            is("plain as paired", x[0].as(0, 1), NOT);
            is("paired as slow", x[1].as(0, 2), NOT);
            is("slow as a sail", x[0].as(1, 3), NOT);
            is("a sail as torn", x[0].as(2, 4), NOT);
            is("torn as paired", x[0].as(3, 1), NOT);
        });
    }

    private static void yardsAndCord() {
        doc.passes("## Promise 10: yards `int yards(int barge, int reach, int layer, int hour)`:");
        doc.says("YARDS by which a BARGE would go in an HOUR at a REACH in a LAYER (TREES are asked; its end, LOCKS are not).", () -> {
            KiteBarges x = Due.told("open 0 20;trees 0 20;lock 0 1;still 0;wind 0 3 3 0 9;wind 4 3 3 0 5;barge 2 3 1 plain 0");
            is("layer 0 at reach 0", x.yards(2, 0, 0, 3), 30);
            is("layer 4 at reach 0", x.yards(2, 0, 4, 3), 16);
            is("under trees in layer 0", x.yards(2, 1, 0, 3), 30);
            is("under trees in layer 4", x.yards(2, 1, 4, 3), 0);
            is("a short reach with a lock that is shut", x.yards(2, 2, 4, 3), 16);
            is("another hour", x.yards(2, 0, 0, 4), 0);
        });
        doc.says("UNKNOWN.", () -> {
            KiteBarges x = Due.told("open 0 20;barge 2 3 1 plain 0");
            is("barge", x.yards(1, 0, 0, 0), UNKNOWN);
            is("reach", x.yards(2, 1, 0, 0), UNKNOWN);
            is("layer", x.yards(2, 0, 6, 0), UNKNOWN);
            is("hour", x.yards(2, 0, 0, 24), UNKNOWN);
        });
        doc.passes("## Promise 11: cord `int cord(int barge, int layer)`:");
        doc.says("The kite of a BARGE comes to a LAYER: by how many it changes.", () -> {
            KiteBarges x = Due.told("open 0 20;barge 2 3 4 plain 0");
            is("four up", x.cord(2, 4), 4);
            is("in layer 4", x.at(2, 2), 4);
            is("three down", x.cord(2, 1), 3);
            is("in layer 1", x.at(2, 2), 1);
            is("to where it is", x.cord(2, 1), 0);
        });
        doc.says("UNKNOWN;", () -> is("not told", Due.told("open 0 20;barge 2 3 4 plain 0").cord(1, 0), UNKNOWN));
        doc.says("OUTSIDE: no LAYER, or more than CORD off that which it had behind the last HOUR;", () -> {
            KiteBarges x = Due.told("open 0 20;barge 2 3 2 plain 0;barge 1 3 5 plain 0");
            is("no layer 6", x.cord(1, 6), OUTSIDE);
            is("no layer -1", x.cord(1, -1), OUTSIDE);
            x.cord(2, 2);
            is("one off, but three off that of the last hour", x.cord(2, 3), OUTSIDE);
            is("it is where it was", x.at(2, 2), 2);
            x.go(1);
            is("one off", x.cord(2, 3), 1);
        });
        doc.says("NOT: it is THERE, no HOURS are left.", () -> {
            KiteBarges x = Due.told("open 0 1;wind 0 0 0 0 1;barge 0 1 5 plain 0;barge 1 60 5 plain 0");
            x.go(1);
            is("there", x.cord(0, 1), NOT);
            x.go(22);
            is("an hour is left", x.cord(1, 1), 1);
            x.go(1);
            is("none is left", x.cord(1, 2), NOT);
        });
    }

    private static void goAndAt() {
        doc.passes("## Promise 12: go `int go(int n)`:");
        doc.says("n HOURS go (1 .. 24, no more than are left):", () -> {
            KiteBarges x = Due.told("open 0 20;open 0 20;wind 0 0 23 0 1;barge 0 10 1 plain 0");
            x.go(1);
            is("one", x.at(0, 1), 1);
            x.go(18);
            is("18 more", x.at(0, 1), 19);
            x.go(24);
            is("five that are left", x.at(0, 0) * 20 + x.at(0, 1), 24);
            x.go(24);
            is("none is left", x.at(0, 0) * 20 + x.at(0, 1), 24);
        });
        doc.says("HOURS that have gone in all.", () -> {
            KiteBarges x = new KiteBarges();
            is("seven", x.go(7), 7);
            is("and eight", x.go(8), 15);
            is("and all", x.go(24), 24);
            is("no more", x.go(1), 24);
        });
        doc.says("OUTSIDE.", () -> {
            is("n 0", new KiteBarges().go(0), OUTSIDE);
            is("n 25", new KiteBarges().go(25), OUTSIDE);
        });
        doc.passes("## Promise 13: at `int at(int barge, int what)`:");
        doc.says("Where a BARGE is: REACH (what 0; NONE: it is THERE), YARD (1), LAYER (2), CORD RUN (3), HOURS in which "
                + "it stayed where it was, and was not THERE (4).", () -> {
            // Hour 0 has wind in layer 0, hours 1 and 2 in layer 3, hour 3 in none, hour 4 in layer 3.
            KiteBarges x = Due.told("open 0 5;open 0 5;wind 0 0 0 0 3;wind 3 1 2 0 4;wind 3 4 4 0 9;barge 1 10 5 plain 0");
            int[][] want = {{0, 0, 0, 0, 0}, {0, 3, 0, 0, 0}, {1, 0, 3, 5, 0}, {1, 4, 3, 5, 0}, {1, 4, 3, 5, 1}, {NONE, 0, 3, 5, 1},
                {NONE, 0, 3, 5, 1}};
            for (int hours = 0; hours < want.length; hours++) {
                for (int what = 0; what < 5; what++) {
                    is("behind " + hours + " hours, what " + what, x.at(1, what), want[hours][what]);
                }
                if (hours == 1) {
                    x.cord(1, 4);
                    x.cord(1, 3);
                }
                x.go(1);
            }
        });
        doc.says("UNKNOWN;", () -> is("not told", Due.told("barge 1 10 5 plain 0").at(0, 0), UNKNOWN));
        doc.says("OUTSIDE.", () -> {
            is("what 5", Due.told("barge 1 10 5 plain 0").at(1, 5), OUTSIDE);
            is("what -1", Due.told("barge 1 10 5 plain 0").at(1, -1), OUTSIDE);
        });
    }

    private static void knotsKeepAndBack() {
        doc.passes("## Promise 14: knots `int knots(int barge)`:");
        doc.says("BARGES that are in a KNOT with a BARGE as they are now, by bits (none, who is THERE).", () -> {
            KiteBarges x = Due.told("open 0 5;wind 0 0 0 0 1;wind 0 1 1 0 9;barge 0 10 5 plain 0;barge 1 11 5 plain 0;barge 3 60 5 plain 0");
            is("at the begin", x.knots(0), 10);
            x.cord(3, 2);
            is("in another layer now", x.knots(0), 2);
            x.cord(3, 0);
            x.go(1);
            is("yards 1, 0, 0", x.knots(0), 10);
            is("the one at yard 0", x.knots(1), 9);
            x.go(1);
            is("who is there has none", x.knots(0), 0);
            is("nor is anybody in one with him", x.knots(3), 0);
        });
        doc.says("UNKNOWN.", () -> is("not told", Due.told("open 0 5;barge 0 1 1 plain 0").knots(1), UNKNOWN));
        doc.passes("## Promise 15: keep `int keep(int k)`:");
        KiteBarges y = Due.told("open 0 20;wind 0 0 23 0 2;barge 0 10 2 plain 0");
        doc.says("HOURS, BARGES as they are now are kept (k 0, 1): HOURS.", () -> {
            y.go(2);
            y.cord(0, 2);
            is("behind two hours", y.keep(0), 2);
            y.cord(0, 0);
            y.go(3);
            is("behind five hours", y.keep(1), 5);
        });
        doc.says("UNKNOWN.", () -> {
            is("k 2", y.keep(2), UNKNOWN);
            is("k -1", y.keep(-1), UNKNOWN);
        });
        doc.passes("## Promise 16: back `int back(int k)`:");
        doc.says("They are as they were kept: HOURS.", () -> {
            is("to two hours", y.back(0), 2);
            int[][] want = {{0, 4, 2, 2, 0}, {0, 10, 0, 4, 0}};
            for (int what = 0; what < 5; what++) {
                is("what " + what, y.at(0, what), want[0][what]);
            }
            is("the cord reaches from layer 0 still", y.cord(0, 3), OUTSIDE);
            is("hours go on from there", y.go(1), 3);
            is("to five hours", y.back(1), 5);
            for (int what = 0; what < 5; what++) {
                is("what " + what, y.at(0, what), want[1][what]);
            }
            is("to two hours again", y.back(0), 2);
        });
        doc.says("UNKNOWN;", () -> {
            is("k 2", y.back(2), UNKNOWN);
            is("k -1", y.back(-1), UNKNOWN);
        });
        doc.says("NOT: nothing was kept since the last text.", () -> {
            is("never", new KiteBarges().back(0), NOT);
            Due.tell(y, "still 3");
            is("ahead of the text", y.back(0), NOT);
            is("nor so", y.back(1), NOT);
            y.keep(1);
            is("since the text", y.back(1), 0);
            is("the other one", y.back(0), NOT);
        });
    }

    private static void plans() {
        doc.passes("## Promise 17: soonest `int soonest(int barge, int hour, int i)`:");
        // From hour 4: layer 2 in hours 4 and 5 brings it to reach 1, layer 3 in hour 6 there.
        KiteBarges x = Due.told("open 0 5;open 4 5;wind 2 0 23 0 4;wind 3 0 23 4 9;barge 1 10 2 plain 0;barge 2 10 2 plain 0;barge 3 60 1 torn 0");
        doc.says("SOONEST from an HOUR: how many HOURS (i -2), CORD RUN (-1), the LAYER in its i-th HOUR;", () -> {
            int[] want = {3, 3, 2, 2, 3};
            for (int i = -2; i < 3; i++) {
                is("i " + i, x.soonest(1, 4, i), want[i + 2]);
            }
        });
        doc.says("NONE: there is none, or not so many.", () -> {
            is("not so many", x.soonest(1, 4, 3), NONE);
            for (int i = -2; i < 3; i++) {
                is("none from hour 22, i " + i, x.soonest(1, 22, i), NONE);
            }
        });
        doc.says("UNKNOWN;", () -> {
            is("barge", x.soonest(0, 4, 0), UNKNOWN);
            is("hour", x.soonest(1, 24, 0), UNKNOWN);
        });
        doc.says("OUTSIDE: i below -2.", () -> is("i -3", x.soonest(1, 4, -3), OUTSIDE));
        doc.passes("## Promise 18: clear `int clear(int barge, int other, int i)`:");
        doc.says("CLEAR of another one: likewise.", () -> {
            // Barge 1 is at yard 4 of reach 0 behind hour 0, at the begin of reach 1 behind hour 1, there behind hour 2;
            // barge 2 is at these places an hour later.
            int[] want = {3, 3, 2, 2, 3, NONE};
            for (int i = -2; i < 4; i++) {
                is("i " + i, x.clear(2, 1, i), want[i + 2]);
            }
            for (int i = -2; i < 4; i++) {
                is("none, i " + i, x.clear(3, 1, i), NONE);
            }
        });
        doc.says("UNKNOWN;", () -> {
            is("barge", x.clear(0, 1, 0), UNKNOWN);
            is("other", x.clear(1, 0, 0), UNKNOWN);
        });
        doc.says("OUTSIDE: one and itself, i;", () -> {
            is("itself", x.clear(1, 1, 0), OUTSIDE);
            is("i -3", x.clear(1, 2, -3), OUTSIDE);
        });
        doc.says("NOT: that one has no SOONEST.", () -> is("too heavy", x.clear(1, 3, 0), NOT));
    }

    private interface OddsCall {
        long on(KiteBarges x, int barge, int n, int p, int part);
    }

    private static void partsAre(OddsCall call, KiteBarges x, int n, int p, long above, long below) {
        is("n " + n + ", p " + p + ", above", call.on(x, 1, n, p, 0), above);
        is("n " + n + ", p " + p + ", below", call.on(x, 1, n, p, 1), below);
    }

    private static void outside(OddsCall call, KiteBarges x, int mostHours) {
        is("n", call.on(x, 1, mostHours + 1, 5, 0), OUTSIDE);
        is("n below", call.on(x, 1, -1, 5, 0), OUTSIDE);
        is("p", call.on(x, 1, 2, 11, 0), OUTSIDE);
        is("p below", call.on(x, 1, 2, -1, 0), OUTSIDE);
        is("part", call.on(x, 1, 2, 5, 2), OUTSIDE);
        is("part below", call.on(x, 1, 2, 5, -1), OUTSIDE);
    }

    /** Reach 0 by layer 1, reach 1 by layer 2, an hour each; barge 2 is too heavy. */
    private static void odds() {
        KiteBarges x = Due.told("open 0 3;open 4 3;wind 1 0 23 0 3;wind 2 0 23 4 3;barge 1 10 5 plain 0;barge 2 60 1 torn 0");
        doc.passes("## Promise 19: odds `long odds(int barge, int n, int p, int part)`:");
        doc.says("ODDS.", () -> {
            partsAre(KiteBarges::odds, x, 1, 4, 0, 1);
            partsAre(KiteBarges::odds, x, 2, 4, 9, 25);
            // Layers 1, 2, 2: 0.6 (1 - 0.16); then 0.6 (1 - 0.064).
            partsAre(KiteBarges::odds, x, 3, 4, 63, 125);
            partsAre(KiteBarges::odds, x, 4, 4, 351, 625);
        });
        doc.says("UNKNOWN;", () -> is("not told", x.odds(0, 2, 4, 0), UNKNOWN));
        doc.says("OUTSIDE;", () -> outside(KiteBarges::odds, x, 8));
        doc.says("NOT: it has no SOONEST.", () -> is("too heavy", x.odds(2, 2, 4, 0), NOT));
        doc.passes("## Promise 20: sight `long sight(int barge, int n, int p, int part)`:");
        doc.says("SIGHT.", () -> {
            partsAre(KiteBarges::sight, x, 2, 4, 9, 25);
            // Two hours of three without a lull: 0.216 + 3 * 0.144; of four: 1 - 0.0256 - 4 * 0.0384.
            partsAre(KiteBarges::sight, x, 3, 4, 81, 125);
            partsAre(KiteBarges::sight, x, 4, 4, 513, 625);
            is("too heavy", x.sight(2, 8, 4, 0), 0);
        });
        doc.says("UNKNOWN;", () -> is("not told", x.sight(0, 2, 4, 0), UNKNOWN));
        doc.says("OUTSIDE.", () -> outside(KiteBarges::sight, x, 8));
        doc.passes("## Promise 21: blind `long blind(int barge, int n, int p, int part)`:");
        doc.says("BLIND.", () -> {
            partsAre(KiteBarges::blind, x, 2, 4, 9, 25);
            // Layers 1, 2, 2 or 1, 1, 2: 0.6 (1 - 0.16); layers 1, 1, 2, 2: (1 - 0.16) (1 - 0.16).
            partsAre(KiteBarges::blind, x, 3, 4, 63, 125);
            partsAre(KiteBarges::blind, x, 4, 4, 441, 625);
            is("too heavy", x.blind(2, 4, 4, 0), 0);
        });
        doc.says("UNKNOWN;", () -> is("not told", x.blind(0, 2, 4, 0), UNKNOWN));
        doc.says("OUTSIDE: n above 4, too.", () -> outside(KiteBarges::blind, x, 4));
        doc.passes("## Promise 22: worth `long worth(int barge, int n, int p, int part)`:");
        doc.says("WORTH.", () -> {
            partsAre(KiteBarges::worth, x, 2, 4, 0, 1);
            partsAre(KiteBarges::worth, x, 3, 4, 18, 125);
            partsAre(KiteBarges::worth, x, 4, 4, 72, 625);
            is("too heavy", x.worth(2, 4, 4, 1), 1);
        });
        doc.says("UNKNOWN;", () -> is("not told", x.worth(0, 2, 4, 0), UNKNOWN));
        doc.says("OUTSIDE: n above 4, too.", () -> outside(KiteBarges::worth, x, 4));
    }

    private static void foundAndFirst() {
        // Behind hours 0 and 1 barge 1 is at yards 2 and 4 of reach 0 in layer 1, behind hour 2 at the begin of reach 1, behind
        // hour 3 at its yard 4 in layer 5, then there. Barge 3 is at yard 4 behind hour 0, in reach 1 behind hour 1, then there.
        KiteBarges x = Due.told("open 0 5;open 2 5;wind 1 0 23 0 4;wind 5 0 23 2 9;barge 1 20 5 plain 0;barge 3 10 5 plain 0");
        doc.passes("## Promise 23: found `int found(int reach, int layer)`:");
        doc.says("FOUND, by bits.", () -> {
            is("reach 0, layer 1", x.found(0, 1), 10);
            is("reach 1, layer 1", x.found(1, 1), 10);
            is("reach 1, layer 5", x.found(1, 5), 2);
            is("reach 0, layer 0", x.found(0, 0), 0);
        });
        doc.says("UNKNOWN: REACH, LAYER.", () -> {
            is("reach", x.found(2, 0), UNKNOWN);
            is("layer", x.found(0, 6), UNKNOWN);
        });
        doc.passes("## Promise 24: first `int first(int barge, int reach, int layer)`:");
        doc.says("The first such HOUR of a BARGE;", () -> {
            is("barge 1, reach 0", x.first(1, 0, 1), 0);
            is("barge 1, reach 1", x.first(1, 1, 1), 2);
            is("barge 1, reach 1, layer 5", x.first(1, 1, 5), 3);
            is("barge 3, reach 1", x.first(3, 1, 1), 1);
        });
        doc.says("NONE.", () -> {
            is("never", x.first(3, 1, 5), NONE);
            is("the begin", x.first(3, 0, 0), NONE);
        });
        doc.says("UNKNOWN.", () -> {
            is("barge", x.first(0, 0, 0), UNKNOWN);
            is("reach", x.first(1, 2, 0), UNKNOWN);
            is("layer", x.first(1, 0, 6), UNKNOWN);
        });
    }

    private static void booksAndCount() {
        doc.passes("## Promise 25: books `int books(int barge, int what)`:");
        KiteBarges x = Due.told("open 0 7;wind 0 0 23 0 1;barge 2 10 1 plain 13");
        doc.says("BOOKS: how often (what 0), FREIGHT (1).", () -> {
            is("how often", x.books(2, 0), 3);
            is("freight", x.books(2, 1), 39);
        });
        doc.says("UNKNOWN;", () -> is("not told", x.books(1, 0), UNKNOWN));
        doc.says("OUTSIDE;", () -> {
            is("what 2", x.books(2, 2), OUTSIDE);
            is("what -1", x.books(2, -1), OUTSIDE);
        });
        doc.says("NOT: there are no REACHES.", () -> {
            Due.tell(x, "dry");
            is("how often", x.books(2, 0), NOT);
            is("freight", x.books(2, 1), NOT);
        });
        doc.passes("## Promise 26: count `int count(int what)`:");
        doc.says("0 REACHES, 1 BARGES told, by bits, 2 STILL, 3 HOURS, 4 bytes of THE TEXT, 5 YARDS of the whole river.", () -> {
            KiteBarges y = Due.told("open 0 7;lock 3 8;trees 5 9;still 6;barge 1 1 1 plain 0;barge 2 1 1 plain 0");
            y.go(11);
            Due.write(y, "still 7");
            int[] want = {3, 6, 6, 11, 7, 24};
            for (int what = 0; what < 6; what++) {
                is("what " + what, y.count(what), want[what]);
            }
        });
        doc.says("OUTSIDE.", () -> {
            is("what 6", new KiteBarges().count(6), OUTSIDE);
            is("what -1", new KiteBarges().count(-1), OUTSIDE);
        });
    }
}
