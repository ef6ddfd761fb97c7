import java.io.IOException;

/** The document from its first line to promise 1: each piece that tells of a call, with a test of its own. */
public final class DocumentTermsTest {
    private static final int NONE = -1, UNKNOWN = -2, OUTSIDE = -3, NOT = -4, FULL = -5;
    private static final int HOURS = -2, CORD_RUN = -1;
    private static final String[] KITES = {"plain", "paired", "slow", "sail", "torn"};
    private static final Due DUE = new Due();
    private static Document doc;

    public static void main(String[] args) throws IOException {
        doc = new Document(DUE);
        doc.passesUpTo("An object is used");
        doc.says("An object is used for at most 512 calls after it has been made; what later calls answer is free.",
                DocumentTermsTest::anObjectAnswers512Calls);
        doc.passes("## The public face ```java public final class KiteBarges {");
        doc.says("public static final int NONE = -1, UNKNOWN = -2, OUTSIDE = -3, NOT = -4, FULL = -5;",
                DocumentTermsTest::constants);
        // The calls of the face are looked at by RulesTest.
        doc.passesUpTo("7, as many as told");
        whatIsTold();
        theText();
        faultsAndLines();
        anHour();
        cords();
        soonest();
        knotsAndClear();
        lulls();
        foundAndBooks();
        refused();
        doc.goesOnWith("## Promise 1:");
        DUE.end();
    }

    private static void is(String what, long got, long want) {
        doc.is(what, got, want);
    }

    private static void faultIs(String text, int want) {
        is("fault of '" + text + "'", Due.fault(new KiteBarges(), text), want);
    }

    private static void anObjectAnswers512Calls() {
        KiteBarges x = new KiteBarges();
        for (int call = 1; call <= 508; call++) {
            is("call " + call, x.count(2), 2);
        }
        is("call 509", x.write('d' | 'r' << 8 | 'y' << 16, 3), 3);
        is("call 510", x.fault(), NONE);
        is("call 511", x.river(), 1);
        is("call 512", x.go(24), 24);
    }

    private static void constants() {
        is("NONE", KiteBarges.NONE, -1);
        is("UNKNOWN", KiteBarges.UNKNOWN, -2);
        is("OUTSIDE", KiteBarges.OUTSIDE, -3);
        is("NOT", KiteBarges.NOT, -4);
        is("FULL", KiteBarges.FULL, -5);
    }

    // ---- section 1: what is told

    private static void whatIsTold() {
        doc.says("7, as many as told (none at first),", () -> {
            KiteBarges x = new KiteBarges();
            is("none at first", x.count(0), 0);
            is("not the first one", x.reach(0, 0), UNKNOWN);
            for (int told = 1; told <= 8; told++) {
                Due.tell(x, "open 3 4");
                is("told", x.count(0), told);
                is("the last told", x.reach(told - 1, 0), 3);
                is("the next one", x.reach(told, 0), UNKNOWN);
            }
        });
        doc.says("each with a WAY (0 .. 7, an eighth of a round each),", () -> {
            for (int way = 0; way <= 7; way++) {
                KiteBarges x = Due.told("open " + way + " 9;wind 0 0 0 " + (way + 1) % 8 + " 1;wind 0 1 1 " + (way + 7) % 8
                        + " 1;wind 0 2 2 " + (way + 2) % 8 + " 1;barge 0 1 1 plain 0");
                is("way", x.reach(0, 0), way);
                is("the next eighth is beside it", x.yards(0, 0, 0, 0), 7);
                is("so is the one ahead", x.yards(0, 0, 0, 1), 7);
                is("the next but one is not", x.yards(0, 0, 0, 2), 0);
            }
            faultIs("open 8 1", 5);
        });
        doc.says("LONG (1 .. 20 yards),", () -> {
            for (int yards = 1; yards <= 20; yards++) {
                is("long", Due.told("trees 0 " + yards).reach(0, 1), yards);
            }
            faultIs("trees 0 0", 8);
            faultIs("trees 0 21", 8);
        });
        doc.says("OPEN (0), under TREES (1), or with a LOCK (2) at its end.", () -> {
            KiteBarges x = Due.told("lock 0 1;open 0 1;trees 0 1");
            is("lock", x.reach(0, 2), 2);
            is("open", x.reach(1, 2), 0);
            is("trees", x.reach(2, 2), 1);
        });
        doc.says("LAYERS are 0 .. 5, HOURS 0 .. 23:", () -> {
            for (int layer = -1; layer <= 6; layer++) {
                for (int hour = -1; hour <= 24; hour++) {
                    boolean isSuch = layer >= 0 && layer <= 5 && hour >= 0 && hour <= 23;
                    is("layer " + layer + ", hour " + hour, new KiteBarges().wind(layer, hour, 0), isSuch ? 0 : UNKNOWN);
                }
            }
        });
        doc.says("WIND of a LAYER in an HOUR has a WAY (0 .. 7) and a STRENGTH (0 .. 9) (0 and 0 at first).", () -> {
            KiteBarges x = new KiteBarges();
            is("way at first", x.wind(4, 20, 0), 0);
            is("strength at first", x.wind(4, 20, 1), 0);
            for (int strength = 0; strength <= 9; strength++) {
                Due.tell(x, "wind 4 20 20 " + strength % 8 + " " + strength);
                is("way", x.wind(4, 20, 0), strength % 8);
                is("strength", x.wind(4, 20, 1), strength);
            }
            faultIs("wind 4 20 20 8 9", 13);
            faultIs("wind 4 20 20 7 10", 15);
        });
        doc.says("STILL is 0 .. 9 (2 at first).", () -> {
            is("at first", new KiteBarges().count(2), 2);
            for (int still = 0; still <= 9; still++) {
                is("told", Due.told("still " + still).count(2), still);
            }
            faultIs("still 10", 6);
        });
        doc.says("BARGES are 0 .. 3 (none told at first):", () -> {
            KiteBarges x = new KiteBarges();
            is("none", x.count(1), 0);
            Due.tell(x, "barge 0 1 1 plain 0;barge 1 1 1 plain 0;barge 2 1 1 plain 0;barge 3 1 1 plain 0");
            is("all", x.count(1), 15);
            is("no barge 4", x.barge(4, 0), UNKNOWN);
            is("no barge -1", x.barge(-1, 0), UNKNOWN);
        });
        doc.says("WEIGHT 1 .. 60, CORD 1 .. 5,", () -> {
            for (int weight = 1; weight <= 60; weight++) {
                KiteBarges x = Due.told("barge 1 " + weight + " " + (1 + weight % 5) + " sail 0");
                is("weight", x.barge(1, 0), weight);
                is("cord", x.barge(1, 1), 1 + weight % 5);
            }
            faultIs("barge 1 0 1 sail 0", 8);
            faultIs("barge 1 61 1 sail 0", 8);
            faultIs("barge 1 1 0 sail 0", 10);
            faultIs("barge 1 1 6 sail 0", 10);
        });
        doc.says("a KITE: 0 PLAIN, 1 PAIRED, 2 SLOW, 3 SAIL, 4 TORN;", () -> {
            for (int kite = 0; kite <= 4; kite++) {
                is(KITES[kite], Due.told("barge 2 1 1 " + KITES[kite] + " 0").barge(2, 2), kite);
            }
        });
        doc.says("FREIGHT 0 .. 99.", () -> {
            for (int freight = 0; freight <= 99; freight++) {
                is("freight", Due.told("barge 3 1 1 torn " + freight).barge(3, 3), freight);
            }
            faultIs("barge 3 1 1 torn 100", 17);
        });
    }

    private static void theText() {
        doc.passes("```text");
        doc.says("THE TEXT is a row of bytes, 200 at most:", () -> {
            KiteBarges x = new KiteBarges();
            is("200", Due.write(x, " ".repeat(200)), 200);
            is("201", x.write(' ', 1), FULL);
        });
        doc.says("LINES with ; (59) between, 8 at most;", () -> {
            KiteBarges x = new KiteBarges();
            Due.write(x, "dry");
            for (int line = 2; line <= 8; line++) {
                x.write(59, 1);
                Due.write(x, "dry");
                is(line + " lines", x.fault(), NONE);
            }
            x.write(59, 1);
            is("the sign behind the eighth", x.fault(), 31);
            Due.write(x, "dry");
            is("nine lines", x.fault(), 31);
            faultIs("dry dry", 4);
            faultIs("dry,dry", 3);
        });
        doc.says("each is one of: open D L. trees D L. lock D L. dry. wind K A B D S. barge N W C plain F. "
                + "(or paired, slow, sail, torn in place of plain) sold N. still S.", () -> {
            String[] lines = {"open 6 9", "trees 6 9", "lock 6 9", "dry", "wind 4 8 9 6 5", "sold 2", "still 5",
                "barge 2 9 4 plain 8", "barge 2 9 4 paired 8", "barge 2 9 4 slow 8", "barge 2 9 4 sail 8", "barge 2 9 4 torn 8"};
            for (String line : lines) {
                faultIs(line, NONE);
                faultIs(line + " 1", line.length() + 1);
                if (!line.equals("dry")) {
                    faultIs(line.substring(0, line.length() - 1), line.length() - 1);
                }
            }
            faultIs("close 6 9", 0);
            faultIs("barge 2 9 4 kite 8", 12);
        });
        doc.says("(As written here, without points;", () -> {
            faultIs("open 6 9.", 8);
            faultIs("dry.", 3);
            faultIs("still 5. dry.", 7);
        });
        doc.says("open, trees, lock: one REACH more of that WAY, LONG L;", () -> {
            KiteBarges x = Due.told("open 1 11");
            Due.tell(x, "trees 2 12;lock 3 13");
            is("three", x.count(0), 3);
            for (int reach = 0; reach < 3; reach++) {
                is("way of " + reach, x.reach(reach, 0), reach + 1);
                is("long of " + reach, x.reach(reach, 1), reach + 11);
            }
        });
        doc.says("a ninth cannot stand there, at its word;", () -> {
            KiteBarges x = Due.told("open 0 1" + ";open 0 1".repeat(6));
            is("an eighth", Due.fault(x, "still 3;lock 0 1"), NONE);
            is("a ninth", Due.fault(x, "still 3;lock 0 1; open 0 1"), 18);
            is("a ninth with another fault", Due.fault(x, "still 3;lock 0 1;open 8 21"), 17);
        });
        doc.says("dry: no REACHES;", () -> {
            KiteBarges x = Due.told("open 0 1;lock 2 3");
            is("one line", Due.tell(x, "dry"), 1);
            is("none", x.count(0), 0);
            is("no yards", x.count(5), 0);
            is("not the first one", x.reach(0, 0), UNKNOWN);
        });
        doc.says("wind: of LAYER K in HOURS A to B (B not below A);", () -> {
            KiteBarges x = Due.told("wind 3 7 9 6 5");
            for (int layer = 0; layer < 6; layer++) {
                for (int hour = 0; hour < 24; hour++) {
                    boolean isTold = layer == 3 && hour >= 7 && hour <= 9;
                    is("strength", x.wind(layer, hour, 1), isTold ? 5 : 0);
                }
            }
            faultIs("wind 3 7 7 6 5", NONE);
            faultIs("wind 3 7 6 6 5", 9);
        });
        doc.says("barge N is told (anew);", () -> {
            KiteBarges x = Due.told("barge 2 40 3 sail 50");
            is("weight", x.barge(2, 0), 40);
            Due.tell(x, "barge 2 41 4 torn 51");
            is("weight anew", x.barge(2, 0), 41);
            is("cord anew", x.barge(2, 1), 4);
            is("kite anew", x.barge(2, 2), 4);
            is("freight anew", x.barge(2, 3), 51);
        });
        doc.says("sold: it is not told any more;", () -> {
            KiteBarges x = Due.told("barge 2 40 3 sail 50;barge 1 1 1 plain 1");
            Due.tell(x, "sold 2");
            is("sold", x.barge(2, 0), UNKNOWN);
            is("the other one", x.count(1), 2);
        });
        doc.says("small letters a .. z,", () -> {
            faultIs("DRY", 0);
            faultIs("Still 3", 0);
            faultIs("barge 0 1 1 pLain 1", 12);
        });
        doc.says("numbers of 1 or 2 digits,", () -> {
            faultIs("open 7 9", NONE);
            faultIs("open 07 09", NONE);
            faultIs("open 007 9", 5);
            is("09 is 9", Due.told("open 07 09").reach(0, 1), 9);
        });
        doc.says("blanks (32) between.)", () -> {
            faultIs("still 3 ; dry", NONE);
            faultIs("  still   3  ", NONE);
            faultIs("open 1 2", NONE);
            faultIs("open 01", 7);
            faultIs("still\t3", 5);
        });
    }

    private static void faultsAndLines() {
        doc.says("A FAULT is at the first TOKEN (a row of small letters, a row of digits, any other byte) "
                + "that cannot stand there", () -> {
            faultIs("still 3;shut 1;shut 2", 8);
            faultIs("still three", 6);
            faultIs("still 3 dry", 8);
            faultIs("still 3 4", 8);
            faultIs("still 3-4", 7);
            faultIs("still --", 6);
            faultIs("stills3", 0);
        });
        doc.says("(a number out of its bounds, of more digits, also),", () -> {
            faultIs("sold 4", 5);
            faultIs("sold 003", 5);
            faultIs("dry;lock 3 21", 11);
            faultIs("dry;lock 3 020", 11);
        });
        doc.says("or at the end, if it comes too soon.", () -> {
            faultIs("", 0);
            faultIs("lock", 4);
            faultIs("lock 3  ", 8);
            faultIs("dry;", 4);
        });
        doc.says("LINES are done in their order.", () -> {
            KiteBarges x = Due.told("still 3;open 1 1;dry;open 2 2;still 4;barge 0 1 1 plain 0;sold 0");
            is("the last still", x.count(2), 4);
            is("one reach", x.count(0), 1);
            is("the one behind dry", x.reach(0, 0), 2);
            is("told, then sold", x.count(1), 0);
        });
        doc.says("Behind them it is HOUR 0,", () -> {
            KiteBarges x = Due.told("barge 0 1 1 plain 0");
            x.go(7);
            Due.tell(x, "still 3");
            is("hours", x.count(3), 0);
            is("an hour goes", x.go(1), 1);
        });
        doc.says("all BARGES are at the begin (REACH 0, YARD 0, LAYER 0),", () -> {
            KiteBarges x = Due.told("open 0 9;open 0 9;wind 0 0 23 0 5;wind 2 0 23 0 5;barge 0 10 5 plain 0;barge 3 10 5 plain 0");
            x.go(2);
            x.cord(3, 2);
            x.go(1);
            is("under way", x.at(3, 0) * 100 + x.at(3, 1) * 10 + x.at(3, 2), 152);
            Due.tell(x, "still 3");
            for (int what = 0; what < 5; what++) {
                is("barge 0, " + what, x.at(0, what), 0);
                is("barge 3, " + what, x.at(3, what), 0);
            }
        });
        doc.says("nothing is kept.", () -> {
            KiteBarges x = Due.told("open 0 9");
            x.keep(0);
            x.keep(1);
            Due.tell(x, "still 3");
            is("0", x.back(0), NOT);
            is("1", x.back(1), NOT);
        });
        doc.passes("```");
    }

    // ---- section 2: hours, cords, plans

    /** One of each kite but SLOW, of weight 1, at a reach of way 2. */
    private static KiteBarges ofEachKite(String winds) {
        return Due.told("open 2 20;" + winds,
                "barge 0 1 1 plain 0;barge 1 1 1 paired 0;barge 2 1 1 sail 0;barge 3 1 1 torn 0");
    }

    private static void yardsAre(KiteBarges x, int hour, int... want) {
        for (int barge = 0; barge < 4; barge++) {
            is("barge " + barge + ", hour " + hour, x.yards(barge, 0, 0, hour), want[barge]);
        }
    }

    private static void anHour() {
        doc.says("======== 2 In an HOUR a BARGE at a YARD of a REACH, its kite in a LAYER, is PULLED by WIND there: "
                + "10 times STRENGTH, if its WAY is that of the REACH;", () -> {
            KiteBarges x = Due.told("open 2 20;open 5 20;wind 1 3 3 2 4;wind 4 6 6 5 7;barge 0 1 1 plain 0;barge 1 1 1 slow 0");
            for (int barge = 0; barge < 2; barge++) {
                is("layer 1, hour 3, reach 0", x.yards(barge, 0, 1, 3), 40);
                is("layer 4, hour 6, reach 1", x.yards(barge, 1, 4, 6), 70);
                is("another layer", x.yards(barge, 0, 0, 3), 0);
                is("another hour", x.yards(barge, 0, 1, 4), 0);
                is("another reach", x.yards(barge, 1, 1, 3), 0);
            }
        });
        doc.says("7 times, if it is one beside (an eighth off);", () -> {
            KiteBarges x = ofEachKite("wind 0 0 0 1 3;wind 0 1 1 3 3");
            yardsAre(x, 0, 21, 42, 21, 10);
            yardsAre(x, 1, 21, 42, 21, 10);
        });
        doc.says("else nothing;", () -> {
            KiteBarges x = ofEachKite("wind 0 0 0 5 9;wind 0 1 1 6 9;wind 0 2 2 7 9;wind 0 3 3 0 9");
            for (int hour = 0; hour < 3; hour++) {
                yardsAre(x, hour, 0, 0, 0, 0);
            }
            is("two off", x.yards(0, 0, 0, 3), 0);
            is("a paired one", x.yards(1, 0, 0, 3), 0);
        });
        doc.says("a SAIL, a TORN one 5 times, if it is two off.", () -> {
            KiteBarges x = ofEachKite("wind 0 0 0 0 4;wind 0 1 1 4 4");
            yardsAre(x, 0, 0, 0, 20, 10);
            yardsAre(x, 1, 0, 0, 20, 10);
        });
        doc.says("PAIRED: twice that.", () -> {
            KiteBarges x = ofEachKite("wind 0 0 0 2 9;wind 0 1 1 1 9");
            is("straight", x.yards(1, 0, 0, 0), 180);
            is("beside", x.yards(1, 0, 0, 1), 126);
        });
        doc.says("TORN: half of it, cut.", () -> {
            KiteBarges x = ofEachKite("wind 0 0 0 2 3;wind 0 1 1 1 3;wind 0 2 2 4 3");
            is("half of 30", x.yards(3, 0, 0, 0), 15);
            is("half of 21", x.yards(3, 0, 0, 1), 10);
            is("half of 15", x.yards(3, 0, 0, 2), 7);
        });
        doc.says("YARDS are what it is PULLED by its WEIGHT, cut;", () -> {
            KiteBarges x = Due.told("open 0 20;wind 0 0 23 0 5;wind 1 0 23 1 5",
                    "barge 0 7 1 plain 0;barge 1 51 1 plain 0;barge 2 50 1 plain 0;barge 3 9 1 torn 0");
            is("50 by 7", x.yards(0, 0, 0, 0), 7);
            is("50 by 51", x.yards(1, 0, 0, 0), 0);
            is("50 by 50", x.yards(2, 0, 0, 0), 1);
            is("35 by 2, cut, by 9", x.yards(3, 0, 1, 0), 1);
        });
        doc.says("none under TREES, if its LAYER is above 1.", () -> {
            KiteBarges x = Due.told("trees 0 20;wind 0 0 23 0 5;wind 1 0 23 0 5;wind 2 0 23 0 5;wind 5 0 23 0 5;barge 0 10 5 plain 0");
            int[] want = {5, 5, 0, 0, 0, 0};
            for (int layer = 0; layer < 6; layer++) {
                is("layer " + layer, x.yards(0, 0, layer, 0), want[layer]);
            }
            x.cord(0, 2);
            x.go(1);
            is("it does not go", x.at(0, 1), 0);
            x.cord(0, 1);
            x.go(1);
            is("it goes", x.at(0, 1), 5);
        });
        placesBehindAnHour();
    }

    private static void placesBehindAnHour() {
        doc.says("It goes so many YARDS on;", () -> {
            KiteBarges x = Due.told("open 0 20;wind 0 0 0 0 3;wind 0 1 1 0 9;wind 0 3 3 0 7;barge 0 10 1 plain 0");
            int[] want = {3, 12, 12, 19};
            for (int hour = 0; hour < 4; hour++) {
                x.go(1);
                is("behind hour " + hour, x.at(0, 1), want[hour]);
            }
        });
        doc.says("if that would be LONG or more, it comes to YARD 0 of the next REACH, no farther", () -> {
            for (int strength = 6; strength <= 9; strength++) {
                KiteBarges x = Due.told("open 0 7;open 0 1;open 0 1;wind 0 0 0 0 " + strength + ";barge 0 10 1 plain 0");
                x.go(1);
                is("reach by " + strength, x.at(0, 0), strength >= 7 ? 1 : 0);
                is("yard by " + strength, x.at(0, 1), strength >= 7 ? 0 : 6);
            }
        });
        doc.says("(behind the last one it is THERE);", () -> {
            KiteBarges x = Due.told("open 0 7;open 0 3;wind 0 0 23 0 9;barge 0 10 1 plain 0");
            x.go(1);
            is("the last one", x.at(0, 0), 1);
            x.go(1);
            is("there", x.at(0, 0), NONE);
        });
        doc.says("but at a LOCK only if STRENGTH of LAYER 0 in the HOUR is STILL at most,", () -> {
            // Drawn in layer 1; in hours 0 to 2 layer 0 has strengths 5, 4, 3, whatever its way.
            for (int still = 2; still <= 5; still++) {
                KiteBarges x = Due.told("lock 0 7;open 0 9;wind 0 0 0 4 5;wind 0 1 1 4 4;wind 0 2 2 4 3;wind 1 0 23 0 9;still " + still,
                        "barge 0 10 1 plain 0");
                x.cord(0, 1);
                for (int hour = 0; hour < 3; hour++) {
                    x.go(1);
                    is("still " + still + ", hour " + hour, x.at(0, 0), 5 - hour <= still ? 1 : 0);
                    if (x.at(0, 0) == 1) {
                        break;
                    }
                }
            }
            KiteBarges y = Due.told("lock 0 7;wind 1 0 23 0 9;barge 0 10 1 plain 0");
            y.cord(0, 1);
            y.go(1);
            is("a lock at the end of all", y.at(0, 0), NONE);
        });
        doc.says("else to its last YARD.", () -> {
            KiteBarges x = Due.told("lock 0 17;open 0 9;wind 0 0 23 0 9;barge 0 10 1 plain 0");
            int[] want = {9, 16, 16};
            for (int hour = 0; hour < 3; hour++) {
                x.go(1);
                is("reach", x.at(0, 0), 0);
                is("yard behind hour " + hour, x.at(0, 1), want[hour]);
            }
        });
    }

    private static void cords() {
        doc.passes("```text");
        doc.says("Ahead of each HOUR its kite may come to another LAYER, CORD LAYERS off at most", () -> {
            KiteBarges x = Due.told("open 0 20;barge 0 1 2 plain 0");
            is("three off", x.cord(0, 3), OUTSIDE);
            is("two off", x.cord(0, 2), 2);
            x.go(1);
            is("two off that", x.cord(0, 4), 2);
            x.go(1);
            is("three down", x.cord(0, 1), OUTSIDE);
            is("one up", x.cord(0, 5), 1);
        });
        doc.says("(a SLOW one 1).", () -> {
            KiteBarges x = Due.told("open 0 20;barge 0 1 4 slow 0;wind 3 0 23 0 9");
            is("two off", x.cord(0, 2), OUTSIDE);
            is("one off", x.cord(0, 1), 1);
            is("three hours to layer 3, and two more", x.soonest(0, 0, 2), 3);
            is("one layer ahead of hour 0", x.soonest(0, 0, 0), 1);
        });
        doc.says("CORD RUN is by how many LAYERS it was changed, each change together (also there and back ahead of one HOUR).", () -> {
            KiteBarges x = Due.told("open 0 20;barge 0 1 5 plain 0");
            x.cord(0, 4);
            x.cord(0, 0);
            is("there and back", x.at(0, 3), 8);
            x.cord(0, 3);
            x.go(1);
            is("and three", x.at(0, 3), 11);
            x.cord(0, 1);
            is("and two down", x.at(0, 3), 13);
        });
    }

    /** All that soonest tells of a passage. */
    private static void soonestIs(KiteBarges x, int barge, int hour, int run, int... layers) {
        is("hours from " + hour, x.soonest(barge, hour, HOURS), layers.length);
        is("cord run from " + hour, x.soonest(barge, hour, CORD_RUN), run);
        for (int i = 0; i < layers.length; i++) {
            is("layer " + i + " from " + hour, x.soonest(barge, hour, i), layers[i]);
        }
        is("no layer more", x.soonest(barge, hour, layers.length), NONE);
    }

    private static void clearIs(KiteBarges x, int barge, int other, int run, int... layers) {
        is("hours", x.clear(barge, other, HOURS), layers.length);
        is("cord run", x.clear(barge, other, CORD_RUN), run);
        for (int i = 0; i < layers.length; i++) {
            is("layer " + i, x.clear(barge, other, i), layers[i]);
        }
        is("no layer more", x.clear(barge, other, layers.length), NONE);
    }

    private static void soonest() {
        doc.says("SOONEST from an HOUR: from the begin, of all ways to change LAYERS those by which it is THERE behind "
                + "the fewest HOURS", () -> {
            // By layer 0 in four hours, by layer 4 in two: that is eight of cord run less.
            KiteBarges x = Due.told("open 0 8;wind 0 0 23 0 2;wind 4 0 23 0 4;barge 0 10 5 plain 0");
            soonestIs(x, 0, 0, 4, 4, 4);
            x.cord(0, 4);
            x.go(1);
            soonestIs(x, 0, 0, 4, 4, 4);
            soonestIs(x, 0, 9, 4, 4, 4);
        });
        doc.says("(of that one on, to HOUR 23 at the most),", () -> {
            KiteBarges x = Due.told("open 0 3;wind 0 0 11 0 3;wind 0 12 23 0 1;barge 0 10 1 plain 0");
            is("from hour 11", x.soonest(0, 11, HOURS), 1);
            is("from hour 12", x.soonest(0, 12, HOURS), 3);
            is("from hour 21", x.soonest(0, 21, HOURS), 3);
            is("from hour 22", x.soonest(0, 22, HOURS), NONE);
        });
        doc.says("of these those with the least CORD RUN,", () -> {
            // In hour 0 by layers 1 or 4, in hour 1 by 4 alone or 2: 1 and 2 run two, 4 and 4 four.
            KiteBarges x = Due.told("open 0 5;open 2 5;wind 1 0 0 0 5;wind 4 0 0 0 5;wind 4 1 1 2 5;wind 2 1 1 2 5;barge 0 10 5 plain 0");
            soonestIs(x, 0, 0, 2, 1, 2);
            // Without layer 2: 1 and 4 run four as well, and are the first then.
            Due.tell(x, "wind 2 1 1 2 0");
            soonestIs(x, 0, 0, 4, 1, 4);
        });
        doc.says("of these the first by LAYERS;", () -> {
            // Layer 3 has wind in hour 2 alone: 0 0 3, 0 1 3, .., 3 3 3 all run three.
            KiteBarges x = Due.told("open 0 5;wind 3 2 2 0 9;barge 0 10 5 plain 0;barge 1 10 2 plain 0");
            soonestIs(x, 0, 0, 3, 0, 0, 3);
            soonestIs(x, 1, 0, 3, 0, 1, 3);
        });
        doc.says("none.", () -> {
            KiteBarges x = Due.told("open 0 5;wind 0 0 23 4 9;barge 0 1 5 sail 0");
            for (int i = -2; i < 24; i++) {
                is("i " + i, x.soonest(0, 0, i), NONE);
            }
        });
        doc.says("Without REACHES it is THERE at once.", () -> {
            KiteBarges x = Due.told("barge 0 60 1 torn 0");
            soonestIs(x, 0, 0, 0);
            soonestIs(x, 0, 23, 0);
            is("there", x.at(0, 0), NONE);
        });
    }

    private static void knotsAndClear() {
        doc.says("A KNOT: two BARGES behind an HOUR in one REACH, in one LAYER, less than 2 YARDS apart.", () -> {
            // In hour 0 barges 0 to 3 go 4, 3, 2, 9 yards; reach 0 has 9.
            KiteBarges x = Due.told("open 0 9;open 0 9;wind 0 0 0 0 9;barge 0 20 1 plain 0;barge 1 30 1 plain 0",
                    "barge 2 45 1 plain 0;barge 3 10 1 plain 0");
            x.go(1);
            is("yard 4: with 3, not with 2", x.knots(0), 2);
            is("yard 3: with 4 and 2", x.knots(1), 5);
            is("yard 2: with 3, not with yard 0 of another reach", x.knots(2), 2);
            is("in another reach", x.knots(3), 0);
            x.cord(1, 1);
            x.go(1);
            is("in another layer", x.knots(0), 0);
            is("alone there", x.knots(1), 0);
        });
        doc.says("CLEAR of another one (that goes SOONEST from HOUR 0 on,", () -> {
            // Two yards an hour each, in layers 1 or 2: barge 1 begins an hour sooner, so it is two yards ahead.
            KiteBarges x = Due.told("open 0 9;wind 1 0 23 0 2;wind 2 0 23 0 2;barge 0 10 5 plain 0;barge 1 10 5 plain 0");
            clearIs(x, 0, 1, 1, 1, 1, 1, 1, 1);
            // One yard an hour each: it is one yard ahead, in layer 1, so barge 0 has to take layer 2.
            Due.tell(x, "wind 1 0 23 0 1;wind 2 0 23 0 1");
            clearIs(x, 0, 1, 2, 2, 2, 2, 2, 2, 2, 2, 2, 2);
        });
        doc.says("and is gone when it is THERE):", () -> {
            // Barge 1 is there behind hour 1; behind hour 0 it was at yard 2 in layer 0, where barge 0 comes behind hour 1.
            KiteBarges x = Due.told("open 0 4;wind 0 0 23 0 2;barge 0 10 5 plain 0;barge 1 10 5 plain 0");
            soonestIs(x, 1, 0, 0, 0, 0);
            clearIs(x, 0, 1, 0, 0, 0);
        });
        doc.says("SOONEST from HOUR 1 on without a KNOT behind any HOUR (till it is THERE).", () -> {
            // Barge 1 is at yard 9 behind hour 0, at 10, 11, 12 behind the next ones. Barge 0 goes five yards an hour: behind
            // hour 2 it would be at yard 10. It waits in layer 1, without wind, and then passes, two yards off twice.
            KiteBarges x = Due.told("open 0 20;wind 0 0 0 0 9;wind 0 1 23 0 1;barge 0 2 5 plain 0;barge 1 10 5 plain 0");
            soonestIs(x, 0, 1, 0, 0, 0, 0, 0);
            clearIs(x, 0, 1, 2, 0, 1, 0, 0, 0);
            // Both come there behind hour 1: that is no knot.
            KiteBarges y = Due.told("open 0 4;wind 0 0 0 0 1;wind 0 1 1 0 9;barge 0 10 1 plain 0;barge 1 10 1 plain 0");
            soonestIs(y, 1, 0, 0, 0, 0);
            clearIs(y, 0, 1, 0, 0);
        });
        doc.passes("```");
    }

    // ---- section 3: lulls, lines that are found, books

    /** Both parts of an answer for odds. */
    private static void partsAre(String what, long gotAbove, long gotBelow, long above, long below) {
        is(what + ", above", gotAbove, above);
        is(what + ", below", gotBelow, below);
    }

    private static void oddsAre(KiteBarges x, int n, int p, long above, long below) {
        partsAre("odds, n " + n + ", p " + p, x.odds(0, n, p, 0), x.odds(0, n, p, 1), above, below);
    }

    private static void sightIs(KiteBarges x, int n, int p, long above, long below) {
        partsAre("sight, n " + n + ", p " + p, x.sight(0, n, p, 0), x.sight(0, n, p, 1), above, below);
    }

    private static void blindIs(KiteBarges x, int n, int p, long above, long below) {
        partsAre("blind, n " + n + ", p " + p, x.blind(0, n, p, 0), x.blind(0, n, p, 1), above, below);
    }

    /** Reach 0 is passed in an hour by layer 0, reach 1 in an hour by layer 1. */
    private static KiteBarges byTwoLayers() {
        return Due.told("open 0 3;open 4 3;wind 0 0 23 0 3;wind 1 0 23 4 3;barge 0 10 5 plain 0");
    }

    private static void lulls() {
        doc.says("======== 3 LULLS: in each HOUR by p tenths (0 .. 10), each by itself,", () -> {
            KiteBarges x = Due.told("open 0 1;open 0 1;wind 0 0 23 0 9;barge 0 1 1 plain 0");
            oddsAre(x, 2, 0, 1, 1);
            oddsAre(x, 2, 1, 81, 100);
            oddsAre(x, 2, 2, 16, 25);
            oddsAre(x, 2, 5, 1, 4);
            oddsAre(x, 2, 9, 1, 100);
            oddsAre(x, 2, 10, 0, 1);
            is("p -1", x.odds(0, 2, -1, 0), OUTSIDE);
            is("p 11", x.odds(0, 2, 11, 0), OUTSIDE);
        });
        doc.says("no LAYER has STRENGTH (LOCKS are STILL then).", () -> {
            KiteBarges x = Due.told("open 0 1;wind 0 0 23 0 9;wind 1 0 23 0 9;wind 2 0 23 0 9;wind 3 0 23 0 9;wind 4 0 23 0 9;wind 5 0 23 0 9",
                    "barge 0 1 5 plain 0");
            oddsAre(x, 8, 10, 0, 1);
            sightIs(x, 8, 10, 0, 1);
            blindIs(x, 4, 10, 0, 1);
            // A lock is still in a lull, but nothing draws a barge to its end then.
            Due.tell(x, "dry;lock 0 1");
            sightIs(x, 8, 5, 0, 1);
            Due.tell(x, "still 9");
            sightIs(x, 2, 5, 3, 4);
        });
        doc.says("ODDS of a BARGE that keeps to the LAYERS of its SOONEST from HOUR 0", () -> {
            // Layers 0 and 1: behind a lull in hour 0 it is in layer 1, where reach 0 has no wind.
            KiteBarges x = byTwoLayers();
            oddsAre(x, 2, 2, 16, 25);
            oddsAre(x, 3, 2, 96, 125);
            x.cord(0, 1);
            x.go(2);
            oddsAre(x, 2, 2, 16, 25);
        });
        doc.says("(the last one further on):", () -> {
            // Its soonest is layer 2 in hour 0; layer 2 has wind in hour 2, too, layer 0 in hour 1.
            KiteBarges x = Due.told("open 0 1;wind 2 0 0 0 9;wind 2 2 2 0 9;wind 0 1 1 0 9;barge 0 1 5 plain 0");
            oddsAre(x, 1, 4, 3, 5);
            oddsAre(x, 2, 4, 3, 5);
            oddsAre(x, 3, 4, 21, 25);
            oddsAre(x, 8, 4, 21, 25);
        });
        doc.says("that it is THERE within n HOURS (0 .. 8).", () -> {
            KiteBarges x = Due.told("open 0 1;wind 0 0 23 0 9;barge 0 1 1 plain 0");
            for (int n = 0; n <= 8; n++) {
                oddsAre(x, n, 5, (1 << n) - 1, 1 << n);
            }
            is("n -1", x.odds(0, -1, 5, 0), OUTSIDE);
            is("n 9", x.odds(0, 9, 5, 0), OUTSIDE);
        });
        doc.says("SIGHT: the greatest ODDS, if it is seen ahead of each HOUR whether there is a LULL in it,", () -> {
            // Layer 0 has wind in hour 0, layer 2 in hour 1, cord is 1: who sees a lull in hour 0 climbs to layer 1.
            KiteBarges x = Due.told("open 0 1;wind 0 0 0 0 9;wind 2 1 1 0 9;barge 0 1 1 plain 0");
            sightIs(x, 1, 5, 1, 2);
            sightIs(x, 2, 5, 3, 4);
            blindIs(x, 2, 5, 1, 2);
            oddsAre(x, 2, 5, 1, 2);
        });
        doc.says("and LAYERS are chosen by that and by where one is.", () -> {
            // Two hours of three without a lull: layer 0 as long as it is in reach 0, then layer 1.
            KiteBarges x = byTwoLayers();
            sightIs(x, 2, 2, 16, 25);
            sightIs(x, 3, 2, 112, 125);
            sightIs(x, 3, 5, 1, 2);
        });
        doc.says("BLIND: the greatest by any row of LAYERS chosen ahead (n to 4).", () -> {
            KiteBarges x = byTwoLayers();
            blindIs(x, 3, 2, 96, 125);
            // Layers 0, 0, 1, 1: an hour of two without a lull, twice.
            blindIs(x, 4, 2, 576, 625);
            oddsAre(x, 4, 2, 496, 625);
            is("n 5", x.blind(0, 5, 2, 0), OUTSIDE);
        });
        doc.says("WORTH: SIGHT less BLIND.", () -> {
            KiteBarges x = byTwoLayers();
            partsAre("n 3, p 2", x.worth(0, 3, 2, 0), x.worth(0, 3, 2, 1), 16, 125);
            partsAre("n 3, p 5", x.worth(0, 3, 5, 0), x.worth(0, 3, 5, 1), 1, 8);
            partsAre("n 2, p 5", x.worth(0, 2, 5, 0), x.worth(0, 2, 5, 1), 0, 1);
        });
    }

    private static void foundAndBooks() {
        doc.passes("```text");
        // Barge 0 goes in layers 1, 1, 3, barge 2 in layers 1, 3; barge 1 is too heavy.
        String[] two = {"open 0 4;open 2 4;wind 1 0 23 0 2;wind 3 0 23 2 4",
            "barge 0 10 5 plain 0;barge 2 5 5 plain 0;barge 1 41 5 plain 0"};
        doc.says("FOUND: BARGES that, by SOONEST from HOUR 0, are behind some HOUR in a REACH, in a LAYER;", () -> {
            KiteBarges x = Due.told(two);
            is("barge 0, behind hour 0", x.found(0, 1), 1);
            is("both at the begin of reach 1", x.found(1, 1), 5);
            is("there in layer 3", x.found(1, 3), 0);
            is("the begin", x.found(0, 0), 0);
        });
        doc.says("the first such HOUR of a BARGE.", () -> {
            KiteBarges x = Due.told(two);
            is("barge 0 in reach 0", x.first(0, 0, 1), 0);
            is("barge 0 in reach 1", x.first(0, 1, 1), 1);
            is("barge 2 in reach 1", x.first(2, 1, 1), 0);
            is("barge 2 in reach 0", x.first(2, 0, 1), NONE);
            is("barge 1, too heavy", x.first(1, 0, 1), NONE);
        });
        doc.says("BOOKS of a BARGE: it goes SOONEST from HOUR 0, then again from the HOUR behind that on, and so on, "
                + "as long as it can:", () -> {
            // Each time from layer 0 to layer 2, by cord 1: two hours.
            KiteBarges x = Due.told("open 0 5;wind 2 0 23 0 5;barge 0 10 1 plain 9;barge 1 10 2 plain 9");
            is("two hours each", x.books(0, 0), 12);
            is("an hour each", x.books(1, 0), 24);
            Due.tell(x, "wind 2 0 2 0 0;wind 2 23 23 0 0");
            is("hours 0 to 3, then two each, up to hour 21", x.books(0, 0), 10);
        });
        doc.says("how often, FREIGHT together.", () -> {
            KiteBarges x = Due.told("open 0 5;wind 0 0 23 0 1;barge 0 10 1 plain 9;barge 1 11 1 plain 9");
            is("how often", x.books(0, 0), 4);
            is("freight", x.books(0, 1), 36);
            is("never", x.books(1, 0), 0);
            is("no freight", x.books(1, 1), 0);
        });
        doc.passes("```");
    }

    // ---- what is refused

    private static KiteBarges underWay() {
        KiteBarges x = Due.told("open 0 9;trees 1 9;wind 0 0 23 0 3;wind 1 0 23 1 9;barge 0 10 2 plain 5;barge 2 60 1 torn 6");
        x.go(1);
        x.keep(0);
        x.cord(0, 1);
        x.go(3);
        x.cord(0, 2);
        Due.write(x, "still 5;shut 6");
        return x;
    }

    private static void refused() {
        doc.says("Refused, and nothing changes:", () -> {
            String without = Picture.of(DocumentTermsTest::underWay);
            String with = Picture.of(() -> {
                KiteBarges x = underWay();
                is("write", x.write(32, 9), OUTSIDE);
                is("river", x.river(), NOT);
                is("cord", x.cord(0, 4), OUTSIDE);
                is("go", x.go(25), OUTSIDE);
                is("keep", x.keep(2), UNKNOWN);
                is("back", x.back(1), NOT);
                return x;
            });
            is("all is as it was", with.equals(without) ? 1 : 0, 1);
        });
        doc.says("UNKNOWN (no such REACH, LAYER, HOUR, BARGE (told)), OUTSIDE (another number is not as told), "
                + "NOT (not now: as told), FULL:", () -> {
            KiteBarges x = underWay();
            is("no such reach", x.reach(2, 0), UNKNOWN);
            is("no such layer", x.found(0, 6), UNKNOWN);
            is("no such hour", x.soonest(0, 24, 0), UNKNOWN);
            is("no such barge", x.at(4, 0), UNKNOWN);
            is("a barge not told", x.at(1, 0), UNKNOWN);
            is("another number", x.at(0, 5), OUTSIDE);
            is("not now", x.river(), NOT);
            Due.write(x, " ".repeat(186));
            is("full", x.write(32, 1), FULL);
        });
        doc.says("the first of these that fits.", () -> {
            KiteBarges x = underWay();
            is("UNKNOWN ahead of OUTSIDE", x.reach(2, 3), UNKNOWN);
            is("UNKNOWN ahead of NOT", x.as(1, 1), UNKNOWN);
            is("OUTSIDE ahead of NOT", x.as(0, 5), OUTSIDE);
            is("NOT", x.as(0, 1), NOT);
            Due.write(x, " ".repeat(186));
            is("OUTSIDE ahead of FULL", x.write(32, 0), OUTSIDE);
        });
        doc.says("Parts are told in lowest terms: above (part 0), below (1).", () -> {
            KiteBarges x = Due.told("open 0 1;wind 0 0 23 0 9;barge 0 1 1 plain 0");
            oddsAre(x, 1, 4, 3, 5);
            oddsAre(x, 2, 5, 3, 4);
            oddsAre(x, 3, 3, 973, 1000);
            oddsAre(x, 0, 3, 0, 1);
            oddsAre(x, 8, 0, 1, 1);
            is("part 2", x.odds(0, 1, 4, 2), OUTSIDE);
            is("part -1", x.odds(0, 1, 4, -1), OUTSIDE);
        });
        doc.passes("Ahead of the calls `write`, `erase`, `fault`, `river`, `reach`, `wind`, `barge`, `as` the interface says: "
                + "---- what is told.");
        doc.passes("Ahead of the calls `yards`, `cord`, `go`, `at`, `knots`, `keep`, `back` the interface says: ---- hour by hour.");
        doc.says("Ahead of the calls `soonest`, `clear` the interface says: ---- plans (nothing changes here and below).", () -> {
            String without = Picture.of(DocumentTermsTest::underWay);
            String with = Picture.of(() -> {
                KiteBarges x = underWay();
                for (int barge = 0; barge < 4; barge++) {
                    x.soonest(barge, 3, 0);
                    x.clear(barge, 0, 0);
                    x.odds(barge, 8, 3, 0);
                    x.sight(barge, 8, 3, 0);
                    x.blind(barge, 4, 3, 0);
                    x.worth(barge, 4, 3, 0);
                    x.first(barge, 0, 0);
                    x.books(barge, 0);
                }
                x.found(0, 0);
                x.count(0);
                return x;
            });
            is("all is as it was", with.equals(without) ? 1 : 0, 1);
        });
        doc.passes("Ahead of the calls `odds`, `sight`, `blind`, `worth` the interface says: ---- odds.");
        doc.passes("Ahead of the calls `found`, `first`, `books`, `count` the interface says: ---- lines that are found, books.");
    }
}
