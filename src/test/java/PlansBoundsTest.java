/** Promises 17 to 26 and the words of sections 2 and 3 that they rest on: each bound, at both its ends. */
public final class PlansBoundsTest {
    private static final int NONE = -1, OUTSIDE = -3, NOT = -4;
    private static final int HOURS = -2, CORD_RUN = -1;
    private static final Due DUE = new Due();

    public static void main(String[] args) {
        soonestHasTheFewestHours();
        soonestHasTheLeastCordRun();
        soonestIsTheFirstByLayers();
        soonestWeighsRowsThatEndElsewhere();
        soonestIsOfEachAskedInTurn();
        soonestIsToHour23();
        soonestIsFromAnHourOn();
        soonestIsOfAllItsHours();
        soonestIsFromTheBegin();
        soonestBeginsInLayer0();
        soonestRunsMuchCord();
        soonestWithoutReachesIsAtOnce();
        clearIsTwoYardsApart();
        clearIsTwoYardsAheadOrBehind();
        clearIsFromHour1();
        clearIsToHour23();
        clearOfOneWhoIsGone();
        clearOfOneThatGoesFromHour0();
        clearIsOfEachPair();
        clearHasToWait();
        clearHasNone();
        clearIsNotNow();
        oddsOfAnyHour();
        oddsOfEachReach();
        oddsAreWithinHours();
        oddsKeepToTheLastLayer();
        oddsKeepToEachLayer();
        oddsWithoutReaches();
        lullsDoNotOpenLocks();
        sightIsMoreThanBlind();
        sightWithWindInAllLayers();
        sightIsOfOneWhoIsThereAlone();
        sightIsOfOneWhoHasNoSoonest();
        foundIsBehindAnHour();
        foundIsOfAllReaches();
        firstIsTheFirst();
        booksAreOfWholePassages();
        booksWaitForWind();
        booksWithoutReaches();
        countsAtTheirEnds();
        DUE.end();
    }

    private static void is(String what, long got, long want) {
        DUE.is(what, got, want);
    }

    /** All that soonest tells of a passage. */
    private static void soonestIs(String what, KiteBarges x, int barge, int hour, int run, int... layers) {
        is(what + ", hours", x.soonest(barge, hour, HOURS), layers.length);
        is(what + ", cord run", x.soonest(barge, hour, CORD_RUN), run);
        for (int i = 0; i < layers.length; i++) {
            is(what + ", layer " + i, x.soonest(barge, hour, i), layers[i]);
        }
        is(what + ", not so many", x.soonest(barge, hour, layers.length), NONE);
        is(what + ", far from so many", x.soonest(barge, hour, Integer.MAX_VALUE), NONE);
    }

    private static void clearIs(String what, KiteBarges x, int barge, int other, int run, int... layers) {
        is(what + ", hours", x.clear(barge, other, HOURS), layers.length);
        is(what + ", cord run", x.clear(barge, other, CORD_RUN), run);
        for (int i = 0; i < layers.length; i++) {
            is(what + ", layer " + i, x.clear(barge, other, i), layers[i]);
        }
        is(what + ", not so many", x.clear(barge, other, layers.length), NONE);
        is(what + ", far from so many", x.clear(barge, other, Integer.MAX_VALUE), NONE);
    }

    private static void noSoonest(String what, KiteBarges x, int barge, int hour) {
        for (int i : new int[] {HOURS, CORD_RUN, 0, 1, 23, 24, Integer.MAX_VALUE}) {
            is(what + ", i " + i, x.soonest(barge, hour, i), NONE);
        }
        is(what + ", OUTSIDE", x.soonest(barge, hour, -3), OUTSIDE);
    }

    // ---- "those by which it is THERE behind the fewest HOURS .., of these those with the least CORD RUN,
    // ---- of these the first by LAYERS; none"

    private static void soonestHasTheFewestHours() {
        soonestIs("17: layer 5 at once, layer 0 in two hours",
                Due.told("open 0 9;wind 0 0 23 0 5;wind 5 0 23 0 9;barge 0 10 5 plain 0"), 0, 0, 5, 5);
        // By layer 0 alone it takes hours 0, 1 and 2.
        soonestIs("17: two hours by six layers, three by none",
                Due.told("open 0 9;open 4 9;wind 5 0 0 0 9;wind 4 1 1 4 9;wind 0 0 0 0 8;wind 0 1 1 0 1;wind 0 2 23 4 9",
                        "barge 0 10 5 plain 0"), 0, 0, 6, 5, 4);
    }

    private static void soonestHasTheLeastCordRun() {
        soonestIs("17: layer 3 or 5", Due.told("open 0 9;wind 5 0 23 0 9;wind 3 0 23 0 9;barge 0 10 5 plain 0"), 0, 0, 3, 3);
        // Layers 1 or 2, then 3: by 1 and 3 as much as by 2 and 3; 4, then 3, is more.
        soonestIs("17: up to layer 3", Due.told("open 0 9;open 2 9;wind 1 0 0 0 9;wind 2 0 0 0 9;wind 4 0 0 0 9",
                "wind 3 1 1 2 9;barge 1 10 5 plain 0"), 1, 0, 3, 1, 3);
        // Layer 0 is the first, but layer 1 in both hours runs less than layers 0 and 2; 2 and 2 as much.
        soonestIs("17: less by a later layer", Due.told("open 0 9;open 2 9;wind 0 0 0 0 9;wind 1 0 0 0 9",
                "wind 1 1 1 2 9;wind 2 1 1 2 9;wind 2 0 0 0 9;barge 1 10 5 plain 0"), 1, 0, 1, 0, 1);
    }

    private static void soonestIsTheFirstByLayers() {
        // Wind in hour 2 in layer 2 alone: ahead of it a kite may climb early or late.
        KiteBarges x = Due.told("open 0 1;wind 2 2 2 0 9;barge 0 1 5 plain 0;barge 1 1 2 plain 0;barge 2 1 1 plain 0;barge 3 1 5 slow 0");
        soonestIs("17: as late as can be", x, 0, 0, 2, 0, 0, 2);
        soonestIs("17: by cord 2", x, 1, 0, 2, 0, 0, 2);
        soonestIs("17: by cord 1", x, 2, 0, 2, 0, 1, 2);
        soonestIs("17: a slow one", x, 3, 0, 2, 0, 1, 2);
        soonestIs("17: from hour 1", x, 2, 1, 2, 1, 2);
        noSoonest("17: too late to climb", x, 2, 2);
        soonestIs("17: not too late by cord 2", x, 1, 2, 2, 2);
        noSoonest("17: behind that hour", x, 0, 3);
        // Down: layer 5 in hour 0, layer 3 in hour 2: in hour 1 layers 5, 4, 3 run as much.
        KiteBarges y = Due.told("open 0 1;open 2 1;wind 5 0 0 0 9;wind 3 2 2 2 9;barge 0 1 5 plain 0");
        soonestIs("17: down as soon as can be", y, 0, 0, 7, 5, 3, 3);
    }

    /** By 10 yards in two hours, in one layer and another: which yards a layer goes in which hour. */
    private static void soonestWeighsRowsThatEndElsewhere() {
        // 0 and 2, 1 and 0, 1 and 2 all come there, each by two of cord run.
        KiteBarges x = Due.told("open 0 10;wind 0 0 1 0 1;wind 1 0 0 0 9;wind 2 1 1 0 9;barge 0 10 5 plain 0");
        soonestIs("17: as much cord run, another last layer", x, 0, 0, 2, 0, 2);
        // Without wind in layer 0 in hour 0 the first is 1 and 0.
        Due.tell(x, "wind 0 0 0 0 0");
        soonestIs("17: as much cord run, the lower last layer", x, 0, 0, 2, 1, 0);
        // 2 and 0 by four, 3 and 0 by six, 3 and 3 by three.
        KiteBarges y = Due.told("open 0 10;wind 2 0 0 0 5;wind 0 1 1 0 5;wind 3 0 0 0 9;wind 3 1 1 0 1;barge 0 10 5 plain 0");
        soonestIs("17: less cord run by a later row", y, 0, 0, 3, 3, 3);
        // 0, 5, 3 by seven, 3, 3, 3 by three: both are at yard 2 behind hour 1.
        KiteBarges z = Due.told("open 0 4;wind 3 0 1 0 1;wind 5 1 1 0 2;wind 3 2 2 0 2;barge 0 10 5 plain 0");
        soonestIs("17: less cord run to the same place", z, 0, 0, 3, 3, 3, 3);
    }

    private static void soonestIsOfEachAskedInTurn() {
        KiteBarges x = Due.told("open 0 4;open 2 4;wind 3 0 23 0 4;wind 1 0 23 2 2;wind 4 9 23 2 4",
                "barge 0 10 5 plain 0;barge 1 10 2 plain 0;barge 2 5 3 plain 0;barge 3 20 5 torn 0");
        for (int time = 0; time < 3; time++) {
            soonestIs("17: barge 0", x, 0, 0, 5, 3, 1, 1);
            soonestIs("17: barge 1", x, 1, 0, 5, 1, 3, 1, 1);
            soonestIs("17: barge 0 from hour 9", x, 0, 9, 4, 3, 4);
            soonestIs("17: barge 2", x, 2, 0, 5, 3, 1);
            soonestIs("17: barge 1 from hour 9", x, 1, 9, 4, 1, 3, 4);
            noSoonest("17: barge 1 from hour 22", x, 1, 22);
            soonestIs("17: barge 0 from hour 22", x, 0, 22, 4, 3, 4);
            soonestIs("17: barge 3", x, 3, 9, 4, 3, 3, 3, 3, 4, 4, 4, 4);
        }
    }

    // ---- "(of that one on, to HOUR 23 at the most)"

    private static void soonestIsToHour23() {
        for (int longIs = 1; longIs <= 20; longIs++) {
            KiteBarges x = Due.told("open 0 " + longIs + ";wind 0 0 23 0 1;barge 3 10 1 plain 0");
            for (int hour = 0; hour <= 23; hour++) {
                boolean isLeft = hour + longIs <= 24;
                is("17: " + longIs + " hours from " + hour, x.soonest(3, hour, HOURS), isLeft ? longIs : NONE);
                is("17: its cord run", x.soonest(3, hour, CORD_RUN), isLeft ? 0 : NONE);
                is("17: its last layer", x.soonest(3, hour, longIs - 1), isLeft ? 0 : NONE);
                is("17: no layer more", x.soonest(3, hour, longIs), NONE);
            }
        }
        noSoonest("17: one yard is left", Due.told("open 0 20;open 0 5;wind 0 0 23 0 1;barge 0 10 1 plain 0"), 0, 0);
        noSoonest("17: no wind", Due.told("open 0 1;barge 0 1 5 paired 0"), 0, 0);
        noSoonest("17: too heavy", Due.told("open 0 1;wind 0 0 23 0 5;barge 0 51 5 plain 0"), 0, 0);
        noSoonest("17: a shut lock", Due.told("lock 0 1;wind 0 0 23 0 5;still 4;barge 0 1 5 plain 0"), 0, 0);
        noSoonest("17: trees", Due.told("trees 0 1;wind 2 0 23 0 5;barge 0 1 5 plain 0"), 0, 0);
        soonestIs("17: layer 1 under trees", Due.told("trees 0 1;wind 1 0 23 0 5;barge 0 1 5 plain 0"), 0, 23, 1, 1);
        soonestIs("17: hour 23 alone", Due.told("open 0 1;wind 1 23 23 0 5;barge 0 1 5 plain 0"), 0, 23, 1, 1);
        is("17: hour 23 from hour 0", Due.told("open 0 1;wind 1 23 23 0 5;barge 0 1 5 plain 0").soonest(0, 0, HOURS), 24);
    }

    private static void soonestIsFromAnHourOn() {
        // Layer h % 6 has wind in hour h alone.
        KiteBarges x = Due.told("open 0 1;barge 0 1 5 plain 0");
        for (int hour = 0; hour < 24; hour++) {
            Due.tell(x, "wind " + hour % 6 + " " + hour + " " + hour + " 0 1");
        }
        for (int hour = 0; hour < 24; hour++) {
            soonestIs("17: from hour " + hour, x, 0, hour, hour % 6, hour % 6);
        }
    }

    private static void soonestIsOfAllItsHours() {
        // 24 yards by one a hour, in layer 5: a row of 24 of the highest layers.
        KiteBarges x = Due.told("open 0 20;open 0 4;wind 5 0 23 0 1;barge 0 10 5 plain 9;barge 1 10 1 plain 9");
        int[] fives = new int[24];
        java.util.Arrays.fill(fives, 5);
        soonestIs("17: 24 hours in layer 5", x, 0, 0, 5, fives);
        noSoonest("17: 23 hours are too few", x, 0, 1);
        noSoonest("17: by cord 1 it comes too late to layer 5", x, 1, 0);
        Due.tell(x, "dry;open 0 20");
        int[] climbed = new int[24];
        java.util.Arrays.fill(climbed, 5);
        System.arraycopy(new int[] {1, 2, 3, 4}, 0, climbed, 0, 4);
        soonestIs("17: by cord 1, 20 of 24 hours", x, 1, 0, 5, climbed);
        is("25: all the day", x.books(1, 0), 1);
    }

    private static void soonestIsFromTheBegin() {
        KiteBarges x = Due.told("open 0 5;open 0 5;wind 0 0 23 0 5;barge 2 10 2 plain 0;barge 0 10 1 plain 0");
        soonestIs("17: at hour 0", x, 2, 0, 0, 0, 0);
        x.cord(2, 2);
        soonestIs("17: in layer 2", x, 2, 0, 0, 0, 0);
        x.cord(2, 0);
        x.go(1);
        soonestIs("17: in reach 1", x, 2, 7, 0, 0, 0);
        x.go(23);
        soonestIs("17: there, no hours left", x, 2, 22, 0, 0, 0);
        noSoonest("17: there, hour 23", x, 2, 23);
    }

    // ---- "CORD LAYERS off at most (a SLOW one 1)", from LAYER 0 on

    private static void soonestBeginsInLayer0() {
        for (int layer = 0; layer <= 5; layer++) {
            for (int cord = 1; cord <= 5; cord++) {
                KiteBarges x = Due.told("open 0 1;wind " + layer + " 0 23 0 1;barge 0 1 " + cord + " plain 0;barge 1 1 " + cord + " slow 0");
                int hours = Math.max(1, (layer + cord - 1) / cord);
                is("17: layer " + layer + " by cord " + cord, x.soonest(0, 0, HOURS), hours);
                is("17: its cord run", x.soonest(0, 0, CORD_RUN), layer);
                is("17: its last layer", x.soonest(0, 0, hours - 1), layer);
                is("17: layer " + layer + " of a slow one", x.soonest(1, 0, HOURS), Math.max(1, layer));
                is("17: in the last hours", x.soonest(0, 24 - hours, HOURS), hours);
                is("17: an hour later", hours == 1 ? NONE : x.soonest(0, 25 - hours, HOURS), NONE);
                is("21: blind by cord " + cord, x.blind(0, 4, 0, 0), hours <= 4 ? 1 : 0);
                is("20: sight by cord " + cord, x.sight(0, hours, 0, 0), 1);
                is("20: an hour less", x.sight(0, hours - 1, 0, 0), 0);
            }
        }
    }

    private static void soonestRunsMuchCord() {
        // Layer 5 has wind in even hours, layer 0 in odd ones: each hour counts, each change is by five.
        KiteBarges x = Due.told("open 0 20;open 0 4;barge 0 10 5 plain 0;barge 1 10 4 plain 0");
        int[] layers = new int[24];
        for (int hour = 0; hour < 24; hour++) {
            layers[hour] = hour % 2 == 0 ? 5 : 0;
            Due.tell(x, "wind " + layers[hour] + " " + hour + " " + hour + " 0 1");
        }
        soonestIs("17: 120 of cord run", x, 0, 0, 120, layers);
        noSoonest("17: by cord 4", x, 1, 0);
    }

    // ---- "Without REACHES it is THERE at once."

    private static void soonestWithoutReachesIsAtOnce() {
        KiteBarges x = Due.told("barge 0 60 1 slow 0;barge 1 60 1 torn 0");
        for (int hour = 0; hour < 24; hour++) {
            soonestIs("17: from hour " + hour, x, 0, hour, 0);
        }
        clearIs("18: without reaches", x, 0, 1, 0);
        is("18: OUTSIDE", x.clear(0, 1, -3), OUTSIDE);
    }

    // ---- "less than 2 YARDS apart"; "SOONEST from HOUR 1 on without a KNOT behind any HOUR"

    /** Barges 0 and 1 of these weights on 20 yards; in hour 0 there is a strength of its own, then one of 9. */
    private static KiteBarges follows(int weight, int other, int first) {
        return Due.told("open 0 20;wind 0 0 0 0 " + first + ";wind 0 1 23 0 9;barge 0 " + weight + " 1 plain 0;barge 1 " + other + " 1 plain 0");
    }

    private static void clearIsTwoYardsApart() {
        for (int first = 0; first <= 9; first++) {
            // Both go 9 yards an hour then: they stay as far apart as barge 1 went in hour 0.
            KiteBarges x = follows(10, 10, first);
            if (first >= 2) {
                clearIs("18: " + first + " yards behind", x, 0, 1, 0, 0, 0, 0);
            } else {
                clearIs("18: " + first + " yards behind", x, 0, 1, 2, 1, 0, 0, 0);
            }
        }
    }

    private static void clearIsTwoYardsAheadOrBehind() {
        // Behind hour 1 barge 0 is at yard 11, barge 1 at 9 and what it went in hour 0; at 18 and more behind hour 2.
        int[] apart = {2, 1, 0, -1, -2};
        for (int first = 0; first < apart.length; first++) {
            KiteBarges x = follows(8, 10, first);
            is("18: alone", x.soonest(0, 1, HOURS), 2);
            if (Math.abs(apart[first]) >= 2) {
                clearIs("18: ahead by " + apart[first], x, 0, 1, 0, 0, 0);
            } else {
                clearIs("18: ahead by " + apart[first], x, 0, 1, 2, 1, 0, 0);
            }
        }
    }

    private static void clearIsFromHour1() {
        // Behind hour 0 barge 1 is at the begin in layer 0: barge 0 is not under way as yet.
        KiteBarges x = Due.told("open 0 20;wind 0 0 0 4 9;wind 0 1 23 0 9;barge 0 1 1 plain 0;barge 1 10 1 plain 0");
        is("17: from hour 0 it waits", x.soonest(0, 0, HOURS), 2);
        clearIs("18: there behind hour 1", x, 0, 1, 0, 0);
        // Its layers are those of hours 1 on.
        KiteBarges y = Due.told("open 0 1;wind 0 0 0 0 9;wind 3 1 1 0 9;wind 4 2 2 0 9;barge 0 1 5 plain 0;barge 1 1 5 plain 0");
        clearIs("18: in hour 1", y, 0, 1, 3, 3);
    }

    private static void clearIsToHour23() {
        KiteBarges x = Due.told("open 0 20;open 0 3;wind 0 0 23 0 1;barge 0 10 1 plain 0;barge 1 1 1 plain 0");
        is("18: 23 hours", x.clear(0, 1, HOURS), 23);
        is("18: its last layer", x.clear(0, 1, 22), 0);
        is("18: no more", x.clear(0, 1, 23), NONE);
        Due.tell(x, "dry;open 0 20;open 0 4");
        is("17: 24 hours", x.soonest(0, 0, HOURS), 24);
        for (int i : new int[] {HOURS, CORD_RUN, 0, 22, 23, Integer.MAX_VALUE}) {
            is("18: 24 hours from hour 1, i " + i, x.clear(0, 1, i), NONE);
        }
        is("18: OUTSIDE ahead of NONE", x.clear(0, 1, -3), OUTSIDE);
    }

    // ---- "(that goes SOONEST from HOUR 0 on, and is gone when it is THERE)"; "(till it is THERE)"

    private static void clearOfOneWhoIsGone() {
        // Barge 1 is there behind hour 0: where it was at the begin, and behind the last reach, nobody is.
        KiteBarges x = Due.told("open 0 3;wind 0 0 23 0 9;barge 0 60 1 plain 0;barge 1 1 1 plain 0");
        clearIs("18: gone behind hour 0", x, 0, 1, 0, 0, 0, 0);
        // Both come there behind hour 2.
        KiteBarges y = Due.told("open 0 3;wind 0 0 0 0 4;wind 0 1 1 4 0;wind 0 2 2 0 9;barge 0 10 1 plain 0;barge 1 20 1 plain 0");
        is("17: barge 1 behind hour 2", y.soonest(1, 0, HOURS), 3);
        clearIs("18: there together", y, 0, 1, 0, 0, 0);
        // The one in hour 0 alone is as far as yard 1: a knot behind hour 1, if barge 0 waits in layer 0.
        Due.tell(y, "wind 0 0 0 0 2");
        clearIs("18: it waits in layer 1", y, 0, 1, 2, 1, 0);
    }

    private static void clearOfOneThatGoesFromHour0() {
        // Barge 1 comes there in hour 0, and could not later; barge 0 has a sail for the winds of hours 1 on.
        KiteBarges x = Due.told("open 0 5;wind 0 0 0 0 1;wind 0 1 23 2 9;barge 0 9 1 sail 0;barge 1 1 1 plain 0");
        noSoonest("18: the other one from hour 1", x, 1, 1);
        clearIs("18: of one gone in hour 0", x, 0, 1, 0, 0);
        is("18: the other way round", x.clear(1, 0, HOURS), NONE);
    }

    private static void clearIsOfEachPair() {
        // A yard an hour, two, four, eight: each in layer 0 alone, on 8 yards.
        KiteBarges x = Due.told("open 0 8;wind 0 0 23 0 4;barge 0 40 1 plain 0;barge 1 20 1 plain 0;barge 2 10 1 plain 0;barge 3 5 1 plain 0");
        for (int time = 0; time < 3; time++) {
            for (int barge = 0; barge < 3; barge++) {
                is("18: 3 of " + barge, x.clear(3, barge, HOURS), 1);
                is("18: " + barge + " of 3", x.clear(barge, 3, HOURS), 8 >> barge);
            }
            for (int hour = 0; hour < 24; hour++) {
                is("17: 3 from hour " + hour, x.soonest(3, hour, HOURS), 1);
            }
            // Barge 0 is at yard 2 behind hour 1, 3 behind hour 2, and so on, there behind hour 7: barge 1 comes to
            // yard 2 and 4 behind hours 5 and 6 at the soonest without a layer more, then to 6, then there.
            clearIs("18: 1 of 0", x, 1, 0, 2, 1, 1, 1, 1, 0, 0, 0, 0);
            is("18: 2 of 0", x.clear(2, 0, HOURS), 2);
            is("18: 0 of 1", x.clear(0, 1, HOURS), 8);
            is("18: 0 of 2", x.clear(0, 2, HOURS), 8);
            is("18: 2 of 1", x.clear(2, 1, HOURS), 3);
            is("18: 1 of 2", x.clear(1, 2, HOURS), 4);
            is("18: 2 of 1, cord run", x.clear(2, 1, CORD_RUN), 2);
            is("18: 1 of 2, cord run", x.clear(1, 2, CORD_RUN), 0);
        }
    }

    private static void clearHasToWait() {
        // Barge 1 is by layer 2 in reach 1; barge 0 may come there in layer 2, too, but not where it is.
        KiteBarges x = Due.told("open 0 1;open 2 4;wind 0 0 23 0 1;wind 2 1 23 2 1;barge 0 10 5 plain 0;barge 1 10 5 plain 0");
        soonestIs("18: the other one", x, 1, 0, 2, 0, 2, 2, 2, 2);
        // Behind hour 1 barge 1 is at yard 1; barge 0 at yard 0 in layer 0: no knot; then each goes on by one.
        // Behind hour 2 barge 0 is at yard 1, barge 1 at yard 2, in layer 2: a knot; an hour of waiting is due.
        is("18: alone", x.soonest(0, 1, HOURS), 5);
        is("18: an hour more", x.clear(0, 1, HOURS), 6);
        is("18: in layer 0 first", x.clear(0, 1, 0), 0);
        is("18: it waits in layer 0", x.clear(0, 1, 1), 0);
        is("18: then layer 2", x.clear(0, 1, 2), 2);
        is("18: cord run", x.clear(0, 1, CORD_RUN), 2);
    }

    private static void clearHasNone() {
        // Barge 1 stays at yard 0 up to hour 20, and goes a yard an hour then; barge 0 goes a yard an hour from hour 1
        // on: the first brings it beside barge 1.
        KiteBarges x = Due.told("open 0 3;wind 0 1 20 0 5;wind 0 21 23 0 9;barge 0 50 1 plain 0;barge 1 60 1 plain 0");
        is("17: barge 1", x.soonest(1, 0, HOURS), 24);
        is("17: barge 0 alone", x.soonest(0, 1, HOURS), 3);
        for (int i : new int[] {HOURS, CORD_RUN, 0, 1, 23, Integer.MAX_VALUE}) {
            is("18: no clear passage, i " + i, x.clear(0, 1, i), NONE);
        }
        is("18: OUTSIDE", x.clear(0, 1, -3), OUTSIDE);
        is("18: barge 1 has one, of hours 21 to 23", x.clear(1, 0, HOURS), 23);
    }

    // ---- "NOT: that one has no SOONEST"

    private static void clearIsNotNow() {
        KiteBarges x = Due.told("open 0 1;wind 0 0 23 0 5;barge 0 50 1 plain 0;barge 1 51 1 plain 0;barge 2 51 1 plain 0");
        for (int i : new int[] {HOURS, CORD_RUN, 0, 23, Integer.MAX_VALUE}) {
            is("18: the other has none, i " + i, x.clear(0, 1, i), NOT);
            is("18: both have none, i " + i, x.clear(2, 1, i), NOT);
            is("18: the barge has none, i " + i, x.clear(1, 0, i), NONE);
        }
        is("18: OUTSIDE ahead of NOT", x.clear(0, 1, -3), OUTSIDE);
        is("18: itself ahead of NOT", x.clear(1, 1, 0), OUTSIDE);
    }

    // ---- "LULLS: in each HOUR by p tenths (0 .. 10)"; "THERE within n HOURS (0 .. 8)"; "in lowest terms"

    private static long power(long base, int n) {
        long power = 1;
        for (int i = 0; i < n; i++) {
            power *= base;
        }
        return power;
    }

    /** Both parts of an answer: above by 10 to the n-th, in lowest terms. */
    private static void part(String what, long gotAbove, long gotBelow, long above, int n) {
        long top = above;
        long below = power(10, n);
        for (long divisor = 2; divisor <= 5; divisor += 3) {
            while (top % divisor == 0 && below % divisor == 0) {
                top /= divisor;
                below /= divisor;
            }
        }
        is(what + ", above", gotAbove, top);
        is(what + ", below", gotBelow, below);
    }

    private static void oddsAre(KiteBarges x, int barge, int n, int p, long above) {
        String what = ", n " + n + ", p " + p;
        part("19: odds" + what, x.odds(barge, n, p, 0), x.odds(barge, n, p, 1), above, n);
        part("20: sight" + what, x.sight(barge, n, p, 0), x.sight(barge, n, p, 1), above, n);
        if (n <= 4) {
            part("21: blind" + what, x.blind(barge, n, p, 0), x.blind(barge, n, p, 1), above, n);
            part("22: worth" + what, x.worth(barge, n, p, 0), x.worth(barge, n, p, 1), 0, n);
        } else {
            is("21: blind" + what, x.blind(barge, n, p, 0), OUTSIDE);
            is("22: worth" + what, x.worth(barge, n, p, 1), OUTSIDE);
        }
    }

    /** Any hour without a lull is enough: all but n lulls. */
    private static void oddsOfAnyHour() {
        for (int p = 0; p <= 10; p++) {
            KiteBarges x = Due.told("open 0 1;wind 0 0 23 0 9;barge 3 1 1 plain 0");
            for (int n = 0; n <= 8; n++) {
                oddsAre(x, 3, n, p, power(10, n) - power(p, n));
            }
        }
    }

    /** As many reaches as hours: no lull at all; one hour less is too few. */
    private static void oddsOfEachReach() {
        for (int reaches = 1; reaches <= 8; reaches++) {
            KiteBarges x = Due.told("open 0 1" + ";open 0 1".repeat(reaches - 1), "wind 0 0 23 0 9;barge 0 1 1 plain 0");
            for (int p = 0; p <= 10; p++) {
                oddsAre(x, 0, reaches, p, power(10 - p, reaches));
                oddsAre(x, 0, reaches - 1, p, 0);
            }
        }
        KiteBarges y = Due.told("open 0 1" + ";open 0 1".repeat(7), "wind 0 0 23 0 9;barge 0 1 1 plain 0");
        is("19: as many as can be below", y.odds(0, 8, 3, 1), 100000000L);
        is("19: above them", y.odds(0, 8, 3, 0), 5764801);
    }

    private static void oddsAreWithinHours() {
        for (int hour = 0; hour <= 8; hour++) {
            KiteBarges x = Due.told("open 0 1;wind 0 " + hour + " " + hour + " 0 9;barge 0 1 1 plain 0");
            for (int n = 0; n <= 8; n++) {
                oddsAre(x, 0, n, 3, n > hour ? 7 * power(10, n - 1) : 0);
            }
        }
    }

    // ---- "keeps to the LAYERS of its SOONEST from HOUR 0 (the last one further on)"

    private static void oddsKeepToTheLastLayer() {
        // Soonest in layer 2 in hour 0; layer 2 has wind in hours 0 and 3, layer 0 in hours 1 and 2.
        KiteBarges x = Due.told("open 0 1;wind 2 0 0 0 9;wind 0 1 2 0 9;wind 2 3 3 0 9;barge 0 1 5 plain 0");
        part("19: hour 0", x.odds(0, 1, 4, 0), x.odds(0, 1, 4, 1), 6, 1);
        part("19: not hour 1", x.odds(0, 2, 4, 0), x.odds(0, 2, 4, 1), 60, 2);
        part("19: nor hour 2", x.odds(0, 3, 4, 0), x.odds(0, 3, 4, 1), 600, 3);
        part("19: but hour 3", x.odds(0, 4, 4, 0), x.odds(0, 4, 4, 1), 10000 - 1600, 4);
        part("19: and no more", x.odds(0, 8, 4, 0), x.odds(0, 8, 4, 1), 84000000, 8);
        part("21: blind takes all hours", x.blind(0, 4, 4, 0), x.blind(0, 4, 4, 1), 10000 - 256, 4);
        part("20: so does sight", x.sight(0, 4, 4, 0), x.sight(0, 4, 4, 1), 10000 - 256, 4);
    }

    private static void oddsKeepToEachLayer() {
        // Layer 0 in hour 0, 3 in hour 1, 1 in hour 2 and on; each hour's layer goes whether there was a lull or not.
        KiteBarges x = Due.told("open 0 1;open 2 1;open 4 1;wind 0 0 0 0 9;wind 3 1 1 2 9;wind 1 2 23 4 9;barge 0 1 5 plain 0");
        soonestIs("19: the layers", x, 0, 0, 5, 0, 3, 1);
        part("19: n 2", x.odds(0, 2, 3, 0), x.odds(0, 2, 3, 1), 0, 2);
        part("19: n 3", x.odds(0, 3, 3, 0), x.odds(0, 3, 3, 1), 343, 3);
        part("19: n 4", x.odds(0, 4, 3, 0), x.odds(0, 4, 3, 1), 4900 - 441, 4);
        part("19: n 8", x.odds(0, 8, 3, 0), x.odds(0, 8, 3, 1), 49 * (1000000 - 729), 8);
    }

    private static void oddsWithoutReaches() {
        for (int p = 0; p <= 10; p++) {
            KiteBarges x = Due.told("barge 0 1 1 plain 0");
            for (int n = 0; n <= 8; n++) {
                oddsAre(x, 0, n, p, power(10, n));
            }
        }
    }

    // ---- "no LAYER has STRENGTH (LOCKS are STILL then)": without yards a barge comes to no end

    private static void lullsDoNotOpenLocks() {
        KiteBarges x = Due.told("lock 0 1;wind 0 0 23 0 9;barge 0 1 5 plain 0");
        for (int p = 0; p <= 10; p += 5) {
            is("20: a shut lock", x.sight(0, 8, p, 0), 0);
            is("20: below", x.sight(0, 8, p, 1), 1);
            is("21: a shut lock", x.blind(0, 4, p, 0), 0);
            is("19: no soonest", x.odds(0, 8, p, 0), NOT);
        }
        Due.tell(x, "still 9");
        oddsAre(x, 0, 4, 3, 10000 - 81);
        // Shut in hours 0 and 1: a lull there is no loss.
        Due.tell(x, "still 2;wind 0 0 1 0 3;wind 0 2 23 0 2");
        oddsAre(x, 0, 2, 3, 0);
        oddsAre(x, 0, 3, 3, 700);
        oddsAre(x, 0, 4, 3, 9100);
    }

    // ---- "SIGHT: .. LAYERS are chosen by that and by where one is"; "BLIND: .. (n to 4)"; "WORTH: SIGHT less BLIND"

    private static void sightIsMoreThanBlind() {
        // Reach 0 by layer 0, reach 1 by layer 1: two hours without a lull are enough for one who sees where he is.
        KiteBarges x = Due.told("open 0 1;open 2 1;wind 0 0 23 0 9;wind 1 0 23 2 9;barge 0 1 1 plain 0");
        for (int p = 0; p <= 10; p++) {
            for (int n = 0; n <= 8; n++) {
                long fewer = power(p, n) + (n > 0 ? n * power(p, n - 1) * (10 - p) : 0);
                part("20: n " + n + ", p " + p, x.sight(0, n, p, 0), x.sight(0, n, p, 1), power(10, n) - fewer, n);
            }
        }
        // Blind: layers 0, 0, 1, 1: one of two hours twice.
        part("21: n 4, p 5", x.blind(0, 4, 5, 0), x.blind(0, 4, 5, 1), 5625, 4);
        part("20: n 4, p 5", x.sight(0, 4, 5, 0), x.sight(0, 4, 5, 1), 6875, 4);
        part("22: n 4, p 5", x.worth(0, 4, 5, 0), x.worth(0, 4, 5, 1), 1250, 4);
        part("22: n 3, p 5", x.worth(0, 3, 5, 0), x.worth(0, 3, 5, 1), 500 - 375, 3);
        part("22: n 2, p 5", x.worth(0, 2, 5, 0), x.worth(0, 2, 5, 1), 0, 2);
        part("22: n 4, p 0", x.worth(0, 4, 0, 0), x.worth(0, 4, 0, 1), 0, 4);
        part("22: n 4, p 10", x.worth(0, 4, 10, 0), x.worth(0, 4, 10, 1), 0, 4);
        for (int n = 5; n <= 8; n++) {
            is("21: n " + n, x.blind(0, n, 5, 0), OUTSIDE);
            is("22: n " + n, x.worth(0, n, 5, 0), OUTSIDE);
        }
    }

    /** Each layer goes 5 of 20 yards an hour, so that only a lull leaves a barge where it is: four hours without one. */
    private static void sightWithWindInAllLayers() {
        KiteBarges x = Due.told("open 0 20;wind 0 0 23 0 5;wind 1 0 23 0 5;wind 2 0 23 0 5;wind 3 0 23 0 5;wind 4 0 23 0 5;wind 5 0 23 0 5",
                "barge 0 10 5 plain 0;barge 1 10 1 plain 0");
        int[] ways = {1, 8, 28, 56, 70, 56, 28, 8, 1};
        for (int p = 10; p >= 0; p--) {
            long enough = 0;
            for (int lulls = 0; lulls <= 4; lulls++) {
                enough += ways[lulls] * power(p, lulls) * power(10 - p, 8 - lulls);
            }
            for (int barge = 0; barge < 2; barge++) {
                part("20: n 8, p " + p, x.sight(barge, 8, p, 0), x.sight(barge, 8, p, 1), enough, 8);
                part("19: n 8, p " + p, x.odds(barge, 8, p, 0), x.odds(barge, 8, p, 1), enough, 8);
                oddsAre(x, barge, 4, p, power(10 - p, 4));
                oddsAre(x, barge, 3, p, 0);
            }
        }
    }

    /** The last yard of the eighth reach, in layer 5, is not there as yet. */
    private static void sightIsOfOneWhoIsThereAlone() {
        String seven = "open 0 1" + ";open 0 1".repeat(6);
        KiteBarges x = Due.told(seven, "open 0 20;wind 5 0 23 1 7;barge 0 5 5 paired 0");
        is("10: 19 yards", x.yards(0, 7, 5, 7), 19);
        is("17: nine hours", x.soonest(0, 0, HOURS), 9);
        is("20: not within eight", x.sight(0, 8, 0, 0), 0);
        is("19: nor so", x.odds(0, 8, 0, 0), 0);
        Due.tell(x, "dry", seven + ";open 0 19");
        is("17: eight hours", x.soonest(0, 0, HOURS), 8);
        is("20: within eight", x.sight(0, 8, 0, 0), 1);
        is("19: so, too", x.odds(0, 8, 0, 0), 1);
    }

    private static void sightIsOfOneWhoHasNoSoonest() {
        KiteBarges x = Due.told("open 0 1;barge 0 1 1 plain 0");
        for (int n = 0; n <= 4; n++) {
            is("19: no soonest, n " + n, x.odds(0, n, 3, 0), NOT);
            is("20: no way, n " + n, x.sight(0, n, 3, 0), 0);
            is("21: no way, n " + n, x.blind(0, n, 3, 1), 1);
            is("22: no worth, n " + n, x.worth(0, n, 3, 0), 0);
        }
        is("19: OUTSIDE ahead of NOT", x.odds(0, 9, 3, 0), OUTSIDE);
        is("19: p, too", x.odds(0, 8, 11, 0), OUTSIDE);
        is("19: part, too", x.odds(0, 8, 10, 2), OUTSIDE);
    }

    // ---- "FOUND: BARGES that, by SOONEST from HOUR 0, are behind some HOUR in a REACH, in a LAYER"

    private static void foundIsBehindAnHour() {
        // One hour to come there: behind it nobody is on the river.
        KiteBarges x = Due.told("open 0 1;wind 0 0 23 0 9;barge 0 1 1 plain 0;barge 1 60 1 plain 0");
        for (int layer = 0; layer < 6; layer++) {
            is("23: the begin, layer " + layer, x.found(0, layer), 0);
            is("24: the begin, layer " + layer, x.first(0, 0, layer), NONE);
        }
        Due.tell(x, "dry;open 0 2");
        is("23: the slower one at yard 1", x.found(0, 0), 2);
        is("24: behind hour 0", x.first(1, 0, 0), 0);
        is("24: the faster one", x.first(0, 0, 0), NONE);
        Due.tell(x, "barge 0 60 1 plain 0;barge 2 60 1 plain 0;barge 3 50 1 plain 0");
        is("23: all", x.found(0, 0), 15);
        Due.tell(x, "sold 0;sold 2");
        is("23: those told", x.found(0, 0), 10);
        Due.tell(x, "wind 0 0 23 0 5");
        is("23: one has no soonest", x.found(0, 0), 8);
        is("24: none at all", x.first(1, 0, 0), NONE);
        Due.tell(x, "wind 0 0 23 0 4");
        is("23: nobody has", x.found(0, 0), 0);
    }

    private static void foundIsOfAllReaches() {
        KiteBarges x = Due.told("open 0 1" + ";open 0 1".repeat(7), "wind 0 0 23 0 1;wind 5 7 7 0 1;wind 0 7 23 0 0;barge 2 10 5 plain 0");
        soonestIs("24: the way", x, 2, 0, 5, 0, 0, 0, 0, 0, 0, 0, 5);
        for (int reach = 0; reach < 8; reach++) {
            is("24: reach " + reach, x.first(2, reach, 0), reach == 0 ? NONE : reach - 1);
            is("23: reach " + reach, x.found(reach, 0), reach == 0 ? 0 : 4);
            is("24: not in layer 5, reach " + reach, x.first(2, reach, 5), NONE);
        }
    }

    // ---- "the first such HOUR of a BARGE"; "NONE"

    private static void firstIsTheFirst() {
        // 24 hours: 23 in layer 0, but the one behind which it is at its last place, in layer 5.
        KiteBarges x = Due.told("open 0 20;open 0 4;wind 0 0 23 0 1;wind 0 22 22 0 0;wind 5 22 22 0 1;barge 1 10 5 plain 0");
        is("24: all hours", x.soonest(1, 0, HOURS), 24);
        is("24: reach 0 in layer 0", x.first(1, 0, 0), 0);
        is("24: reach 1 in layer 0", x.first(1, 1, 0), 19);
        is("24: reach 1 in layer 5", x.first(1, 1, 5), 22);
        is("24: never in layer 4", x.first(1, 1, 4), NONE);
        is("24: never in layer 5 of reach 0", x.first(1, 0, 5), NONE);
        is("23: in layer 5", x.found(1, 5), 2);
        x.go(24);
        is("24: hours do not matter", x.first(1, 1, 5), 22);
    }

    // ---- "BOOKS: it goes SOONEST from HOUR 0, then again from the HOUR behind that on, as long as it can"

    private static void booksAreOfWholePassages() {
        for (int longIs = 1; longIs <= 20; longIs++) {
            KiteBarges x = Due.told("open 0 " + longIs + ";wind 0 0 23 0 1;barge 0 10 1 plain 99;barge 1 10 1 plain 0;barge 2 11 1 plain 99");
            is("25: " + longIs + " hours each", x.books(0, 0), 24 / longIs);
            is("25: freight", x.books(0, 1), 24 / longIs * 99);
            is("25: without freight", x.books(1, 1), 0);
            is("25: as often", x.books(1, 0), 24 / longIs);
            is("25: too heavy", x.books(2, 0), 0);
            is("25: no freight of it", x.books(2, 1), 0);
        }
        is("25: 24 hours", Due.told("open 0 20;open 0 4;wind 0 0 23 0 1;barge 0 10 1 plain 99").books(0, 1), 99);
        is("25: 25 hours", Due.told("open 0 20;open 0 5;wind 0 0 23 0 1;barge 0 10 1 plain 99").books(0, 1), 0);
        is("25: as much as can be", Due.told("open 0 1;wind 0 0 23 0 1;barge 0 10 1 plain 99").books(0, 1), 2376);
    }

    private static void booksWaitForWind() {
        for (int hour = 0; hour < 24; hour++) {
            KiteBarges x = Due.told("open 0 1;wind 0 " + hour + " " + hour + " 0 1;barge 0 1 1 plain 7");
            is("25: one hour of wind, " + hour, x.books(0, 0), 1);
            Due.tell(x, "wind 0 " + hour + " 23 0 1");
            is("25: wind from hour " + hour, x.books(0, 0), 24 - hour);
            x.go(24);
            is("25: hours do not matter", x.books(0, 1), (24 - hour) * 7);
        }
        // Each passage begins in layer 0: by cord 1 it takes two hours to layer 2 each time.
        KiteBarges y = Due.told("open 0 1;wind 2 0 23 0 1;barge 0 1 1 plain 1;barge 1 1 2 plain 1");
        is("25: two hours each", y.books(0, 0), 12);
        is("25: one hour each", y.books(1, 0), 24);
    }

    // ---- "NOT: there are no REACHES"

    private static void booksWithoutReaches() {
        KiteBarges x = Due.told("barge 0 1 1 plain 9");
        is("25: how often", x.books(0, 0), NOT);
        is("25: freight", x.books(0, 1), NOT);
        is("25: OUTSIDE ahead of NOT", x.books(0, 2), OUTSIDE);
        is("25: below, too", x.books(0, -1), OUTSIDE);
        Due.tell(x, "open 0 1");
        is("25: with one", x.books(0, 0), 0);
        Due.tell(x, "dry");
        is("25: dry", x.books(0, 0), NOT);
    }

    // ---- "0 REACHES, 1 BARGES told, by bits, 2 STILL, 3 HOURS, 4 bytes of THE TEXT, 5 YARDS of the whole river"

    private static void countsAtTheirEnds() {
        KiteBarges x = Due.told("still 9;open 0 20" + ";lock 0 20".repeat(3) + ";trees 0 20".repeat(3), "open 0 20",
                "barge 0 1 1 plain 0;barge 1 1 1 plain 0;barge 2 1 1 plain 0;barge 3 1 1 plain 0");
        x.go(24);
        Due.write(x, " ".repeat(200));
        int[] want = {8, 15, 9, 24, 200, 160};
        int[] least = {0, 0, 0, 0, 0, 0};
        for (int what = 0; what < 6; what++) {
            is("26: the most of " + what, x.count(what), want[what]);
        }
        x.erase();
        Due.tell(x, "dry;still 0;sold 0;sold 1;sold 2;sold 3");
        for (int what = 0; what < 6; what++) {
            is("26: the least of " + what, x.count(what), least[what]);
        }
        for (int what : Numbers.outside(0, 5)) {
            is("26: what " + what, x.count(what), OUTSIDE);
        }
    }
}
