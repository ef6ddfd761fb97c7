/** Promises 6 to 16 and the words of section 2 that they rest on: each bound, at both its ends. */
public final class HoursBoundsTest {
    private static final int NONE = -1, UNKNOWN = -2, OUTSIDE = -3, NOT = -4;
    private static final int PLAIN = 0, PAIRED = 1, SLOW = 2, SAIL = 3, TORN = 4;
    private static final String[] KITES = {"plain", "paired", "slow", "sail", "torn"};
    private static final Due DUE = new Due();

    public static void main(String[] args) {
        nothingIsToldAtFirst();
        reachesAreEight();
        bargesAreFour();
        cordOfASlowOneIsOne();
        kitesAreTakenAsKinds();
        pulledByWay();
        pulledByStrength();
        yardsAreCutByWeight();
        treesShutTheLayersAboveOne();
        yardsPastTheEndAreTold();
        longOrMoreIsTheNextReach();
        noFartherThanYardZero();
        behindTheLastOneIsThere();
        lockOpensIfStillAtMost();
        lockHoldsAtItsLastYard();
        lockAsksForTheEndAlone();
        lockAsksItsOwnHour();
        cordReachesSoFar();
        cordReachesFromTheLastHour();
        cordRunIsOfEachChange();
        cordIsNotNow();
        hoursAreOneToAllThatAreLeft();
        hoursGoForAllBarges();
        stayedIsCounted();
        thereIsTold();
        knotsAreLessThanTwoYards();
        knotsAreInOneReachAndLayer();
        knotsAreOfBargesTold();
        hoursAreKept();
        keptIsNotChangedByHours();
        keptIsSinceTheLastText();
        DUE.end();
    }

    private static void is(String what, long got, long want) {
        DUE.is(what, got, want);
    }

    // ---- what is told

    private static void nothingIsToldAtFirst() {
        KiteBarges x = new KiteBarges();
        for (int i = 0; i < 8; i++) {
            is("1: no reach " + i, x.reach(i, 0), UNKNOWN);
        }
        for (int barge = 0; barge < 4; barge++) {
            is("1: no barge", x.barge(barge, 0), UNKNOWN);
            is("1: nor its kite", x.as(barge, 0), UNKNOWN);
            is("1: nor its place", x.at(barge, 0), UNKNOWN);
            is("1: nor its knots", x.knots(barge), UNKNOWN);
            is("1: nor its cord", x.cord(barge, 0), UNKNOWN);
            is("1: nor its plan", x.soonest(barge, 0, 0), UNKNOWN);
            is("1: nor its books", x.books(barge, 0), UNKNOWN);
        }
        for (int what = 0; what < 6; what++) {
            is("1: count(" + what + ")", x.count(what), what == 2 ? 2 : 0);
        }
        is("1: hours go", x.go(24), 24);
        is("1: and are counted", x.count(3), 24);
        is("1: nothing is kept", x.back(0), NOT);
        is("1: nor there", x.back(1), NOT);
    }

    private static void reachesAreEight() {
        KiteBarges x = new KiteBarges();
        for (int told = 0; told < 8; told++) {
            is("6: the next is not told", x.reach(told, 0), UNKNOWN);
            Due.tell(x, "lock " + (7 - told) + " " + (told % 2 == 0 ? 20 : 1));
            is("6: it is told", x.reach(told, 0), 7 - told);
            is("6: so long", x.reach(told, 1), told % 2 == 0 ? 20 : 1);
            is("6: of this kind", x.reach(told, 2), 2);
            is("26: so many", x.count(0), told + 1);
        }
        for (int reach : Numbers.outside(0, 7)) {
            is("6: reach " + reach, x.reach(reach, 0), UNKNOWN);
        }
        is("26: yards", x.count(5), 84);
        is("26: of all as long as can be", Due.told("open 0 20;open 0 20;open 0 20;open 0 20",
                "open 0 20;open 0 20;open 0 20;open 0 20").count(5), 160);
    }

    private static void bargesAreFour() {
        for (int barge = 0; barge < 4; barge++) {
            KiteBarges x = Due.told("barge " + barge + " 60 5 torn 99");
            int[] want = {60, 5, TORN, 99};
            for (int what = 0; what < 4; what++) {
                is("8: barge " + barge, x.barge(barge, what), want[what]);
                for (int other = 1; other < 4; other++) {
                    is("8: another one", x.barge(barge + other & 3, what), UNKNOWN);
                }
            }
            is("26: by bits", x.count(1), 1 << barge);
        }
    }

    private static void cordOfASlowOneIsOne() {
        for (int cord = 1; cord <= 5; cord++) {
            for (int kite = PLAIN; kite <= TORN; kite++) {
                KiteBarges x = Due.told("barge 1 1 " + cord + " " + KITES[kite] + " 0");
                is("8: cord " + cord + " of a " + KITES[kite] + " one", x.barge(1, 1), kite == SLOW ? 1 : cord);
                Due.tell(x, "barge 1 1 " + cord + " plain 0");
                is("8: told anew as a plain one", x.barge(1, 1), cord);
            }
        }
    }

    private static void kitesAreTakenAsKinds() {
        int[] pulled = {1000, 2000, 1000, 1005, 502};
        int[][] kinds = {{0}, {0, 1}, {0, 2}, {0, 3}, {0, 3, 4}};
        for (int kite = PLAIN; kite <= TORN; kite++) {
            for (int weight : new int[] {1, 60}) {
                KiteBarges x = Due.told("barge 0 " + weight + " 5 " + KITES[kite] + " 9");
                int[] want = {NOT, NOT, NOT, NOT, NOT};
                for (int kind : kinds[kite]) {
                    want[kind] = pulled[kite];
                }
                for (int kind = 0; kind <= 4; kind++) {
                    is("9: a " + KITES[kite] + " one as " + kind, x.as(0, kind), want[kind]);
                }
                for (int kind : Numbers.outside(0, 4)) {
                    is("9: as " + kind, x.as(0, kind), OUTSIDE);
                }
            }
        }
    }

    // ---- "10 times STRENGTH, if its WAY is that of the REACH; 7 times, if it is one beside .. two off"

    /** By eighths off, 0 to 4: what a barge of weight 1 is pulled by strength 3. */
    private static final int[][] BY_STRENGTH_3 = {{30, 21, 0, 0, 0}, {60, 42, 0, 0, 0}, {30, 21, 0, 0, 0},
        {30, 21, 15, 0, 0}, {15, 10, 7, 0, 0}};

    private static void pulledByWay() {
        StringBuilder winds = new StringBuilder("wind 0 0 0 0 3");
        for (int way = 1; way < 8; way++) {
            winds.append(";wind 0 ").append(way).append(' ').append(way).append(' ').append(way).append(" 3");
        }
        for (int kite = PLAIN; kite <= TORN; kite++) {
            KiteBarges x = Due.told(winds.toString(), "barge 2 1 1 " + KITES[kite] + " 0");
            for (int reach = 0; reach < 8; reach++) {
                Due.tell(x, "open " + reach + " 1");
                for (int way = 0; way < 8; way++) {
                    int turned = Math.abs(way - reach);
                    int off = Math.min(turned, 8 - turned);
                    is("10: a " + KITES[kite] + " one, way " + way + " on " + reach, x.yards(2, reach, 0, way),
                            BY_STRENGTH_3[kite][off]);
                }
            }
        }
    }

    private static void pulledByStrength() {
        for (int strength = 0; strength <= 9; strength++) {
            KiteBarges x = Due.told("wind 5 23 23 7 " + strength + ";open 7 1;open 6 1;open 0 1;open 1 1;open 5 1;open 2 1");
            Due.tell(x, "barge 0 1 1 plain 0;barge 1 1 1 paired 0;barge 2 1 1 sail 0;barge 3 1 1 torn 0");
            int[][] times = {{20, 14, 14, 0, 0, 0}, {40, 28, 28, 0, 0, 0}, {20, 14, 14, 10, 10, 0}, {10, 7, 7, 5, 5, 0}};
            for (int barge = 0; barge < 4; barge++) {
                for (int reach = 0; reach < 6; reach++) {
                    is("10: strength " + strength + ", barge " + barge + ", reach " + reach, x.yards(barge, reach, 5, 23),
                            times[barge][reach] * strength / 2);
                }
                is("10: in another hour", x.yards(barge, 0, 5, 22), 0);
                is("10: in another layer", x.yards(barge, 0, 4, 23), 0);
            }
        }
    }

    // ---- "YARDS are what it is PULLED by its WEIGHT, cut"

    private static void yardsAreCutByWeight() {
        int[] pulled = {90, 180, 90, 90, 45};
        for (int weight = 1; weight <= 60; weight++) {
            for (int kite = PLAIN; kite <= TORN; kite++) {
                KiteBarges x = Due.told("open 0 1;wind 0 0 0 0 9;barge 0 " + weight + " 1 " + KITES[kite] + " 0");
                is("10: weight " + weight + ", " + KITES[kite], x.yards(0, 0, 0, 0), pulled[kite] / weight);
            }
        }
        KiteBarges y = Due.told("open 0 1;wind 0 0 0 0 3;wind 0 1 1 1 3;wind 0 2 2 2 3;barge 0 31 1 plain 0;barge 1 11 1 torn 0");
        is("10: 30 by 31", y.yards(0, 0, 0, 0), 0);
        is("10: 15 by 11", y.yards(1, 0, 0, 0), 1);
        is("10: 10, cut, by 11", y.yards(1, 0, 0, 1), 0);
        Due.tell(y, "barge 0 30 1 plain 0;barge 1 10 1 torn 0;barge 2 7 1 torn 0;barge 3 8 1 torn 0");
        is("10: 30 by 30", y.yards(0, 0, 0, 0), 1);
        is("10: 10, cut, by 10", y.yards(1, 0, 0, 1), 1);
        is("10: 7, cut, by 7", y.yards(2, 0, 0, 2), 1);
        is("10: 7, cut, by 8", y.yards(3, 0, 0, 2), 0);
    }

    // ---- "none under TREES, if its LAYER is above 1"

    private static void treesShutTheLayersAboveOne() {
        KiteBarges x = Due.told("open 0 9;trees 0 9;lock 0 9", "wind 0 0 23 0 1;wind 1 0 23 0 2;wind 2 0 23 0 3;"
                + "wind 3 0 23 0 4;wind 4 0 23 0 5;wind 5 0 23 0 6;barge 3 10 5 plain 0");
        for (int layer = 0; layer < 6; layer++) {
            is("10: open", x.yards(3, 0, layer, 0), layer + 1);
            is("10: trees", x.yards(3, 1, layer, 0), layer > 1 ? 0 : layer + 1);
            is("10: lock", x.yards(3, 2, layer, 0), layer + 1);
            Due.tell(x, "dry;trees 0 9");
            x.cord(3, layer);
            x.go(1);
            is("12: under trees", x.at(3, 1), layer > 1 ? 0 : layer + 1);
            is("13: stayed", x.at(3, 4), layer > 1 ? 1 : 0);
            Due.tell(x, "dry;open 0 9;trees 0 9;lock 0 9");
        }
    }

    private static void yardsPastTheEndAreTold() {
        KiteBarges x = Due.told("open 0 1;lock 0 1;still 0;wind 0 0 23 0 9;barge 0 1 1 paired 0");
        is("10: its end is not asked", x.yards(0, 0, 0, 0), 180);
        is("10: nor a lock that is shut", x.yards(0, 1, 0, 23), 180);
    }

    // ---- "It goes so many YARDS on; if that would be LONG or more, it comes to YARD 0 of the next REACH, no farther"

    /** A barge of weight 10, that goes as many yards as the strength of layer 0, hour by hour. */
    private static KiteBarges steps(String reaches, int... strengths) {
        KiteBarges x = Due.told(reaches, "barge 0 10 5 plain 0");
        for (int hour = 0; hour < strengths.length; hour++) {
            Due.tell(x, "wind 0 " + hour + " " + hour + " 0 " + strengths[hour]);
        }
        return x;
    }

    private static void goesTo(KiteBarges x, int... places) {
        for (int i = 0; i < places.length; i++) {
            is("12: hours", x.go(1), i + 1);
            is("12: reach behind hour " + i, x.at(0, 0), places[i] < 0 ? NONE : places[i] / 100);
            is("12: yard behind hour " + i, x.at(0, 1), places[i] < 0 ? 0 : places[i] % 100);
        }
    }

    private static void longOrMoreIsTheNextReach() {
        for (int longIs = 1; longIs <= 20; longIs++) {
            for (int step = 0; step <= 9; step++) {
                KiteBarges x = steps("open 0 " + longIs + ";open 0 20", step);
                goesTo(x, step >= longIs ? 100 : step);
            }
        }
        goesTo(steps("open 0 5;open 0 5", 4, 0, 1, 4, 1), 4, 4, 100, 104, NONE);
        goesTo(steps("open 0 20;open 0 20", 9, 9, 1, 1, 9, 9, 2), 9, 18, 19, 100, 109, 118, NONE);
        goesTo(steps("open 0 20;open 0 20", 9, 9, 0, 2), 9, 18, 18, 100);
        goesTo(steps("trees 0 3;lock 0 3;open 0 3;still 9", 2, 1, 2, 1, 2, 1), 2, 100, 102, 200, 202, NONE);
    }

    private static void noFartherThanYardZero() {
        goesTo(steps("open 0 1;open 0 1;open 0 1", 9, 9, 9), 100, 200, NONE);
        goesTo(steps("open 0 8;open 0 1", 7, 9, 0, 1), 7, 100, 100, NONE);
        KiteBarges x = Due.told("open 0 1;open 0 20;open 0 20;wind 0 0 23 0 9;barge 0 1 1 paired 0");
        goesTo(x, 100, 200, NONE);
    }

    // ---- "(behind the last one it is THERE)"

    private static void behindTheLastOneIsThere() {
        for (int reaches = 1; reaches <= 8; reaches++) {
            StringBuilder text = new StringBuilder("open 0 1");
            text.append(";open 0 1".repeat(reaches - 1));
            KiteBarges x = steps(text.toString(), 1, 1, 1, 1, 1, 1, 1, 1, 1);
            for (int hour = 1; hour <= reaches; hour++) {
                x.go(1);
                is("12: behind " + hour + " of " + reaches, x.at(0, 0), hour == reaches ? NONE : hour);
                is("12: at yard 0", x.at(0, 1), 0);
            }
            x.go(1);
            is("12: it stays there", x.at(0, 0), NONE);
        }
    }

    // ---- "but at a LOCK only if STRENGTH of LAYER 0 in the HOUR is STILL at most, else to its last YARD"

    private static void lockOpensIfStillAtMost() {
        for (int still = 0; still <= 9; still++) {
            for (int strength = 0; strength <= 9; strength++) {
                KiteBarges x = Due.told("lock 0 4;open 0 9;still " + still + ";wind 0 0 0 4 " + strength
                        + ";wind 3 0 0 0 4;barge 1 10 5 plain 0");
                x.cord(1, 3);
                x.go(1);
                String what = "12: still " + still + ", strength " + strength;
                is(what, x.at(1, 0), strength <= still ? 1 : 0);
                is(what + ", yard", x.at(1, 1), strength <= still ? 0 : 3);
                is(what + ", soonest", x.soonest(1, 0, 0), NONE);
                Due.tell(x, "dry;lock 0 4");
                is(what + ", soonest of the last", x.soonest(1, 0, -2), strength <= still ? 1 : NONE);
                x.cord(1, 3);
                x.go(1);
                is(what + ", the last", x.at(1, 0), strength <= still ? NONE : 0);
            }
        }
    }

    private static void lockHoldsAtItsLastYard() {
        // Layer 0 has strength 3, above the 2 that is still at first.
        goesTo(steps("lock 0 20;open 0 9", 9, 9, 9, 9, 2), 9, 18, 19, 19, 100);
        goesTo(steps("lock 0 3;open 0 9", 3, 3, 2), 2, 2, 100);
        goesTo(steps("lock 0 3;open 0 9", 9, 0, 2), 2, 2, 100);
        goesTo(steps("lock 0 1;open 0 9", 3, 0, 1), 0, 0, 100);
        goesTo(steps("lock 0 1", 3, 2), 0, NONE);
        KiteBarges x = steps("lock 0 3", 4, 4, 4);
        x.go(3);
        is("13: the hour that brought it there is none that it stayed", x.at(0, 4), 2);
    }

    private static void lockAsksForTheEndAlone() {
        // Strengths above 2, but not to the end: the lock is at its end.
        goesTo(steps("lock 0 20;open 0 9", 9, 9), 9, 18);
        goesTo(steps("lock 0 10;open 0 9", 9, 1), 9, 100);
        // An hour without yards does not pass a lock, however still it is.
        goesTo(steps("lock 0 10;open 0 9", 9, 0, 0, 1), 9, 9, 9, 100);
        // Trees and open reaches have none.
        goesTo(steps("trees 0 3;open 0 3;still 0", 9, 9), 100, NONE);
    }

    private static void lockAsksItsOwnHour() {
        KiteBarges x = Due.told("lock 0 3;open 0 9;wind 0 0 0 2 9;wind 0 2 2 2 9;wind 0 3 23 2 3;wind 1 0 23 0 3");
        Due.tell(x, "barge 0 10 5 plain 0;barge 1 10 5 plain 0");
        x.cord(0, 1);
        x.go(1);
        is("12: shut in hour 0", x.at(0, 0), 0);
        x.go(1);
        is("12: open in hour 1", x.at(0, 0), 1);
        x.cord(1, 1);
        x.go(22);
        is("12: shut from hour 2 on", x.at(1, 0), 0);
        is("12: at its last yard", x.at(1, 1), 2);
    }

    // ---- "its kite may come to another LAYER, CORD LAYERS off at most (a SLOW one 1)"

    /** A barge whose kite was in a layer behind the last hour. */
    private static KiteBarges inLayer(int cord, String kite, int layer) {
        KiteBarges x = Due.told("open 0 20;barge 2 1 " + cord + " " + kite + " 0");
        for (int to = 1; to <= layer; to++) {
            x.cord(2, to);
            x.go(1);
        }
        return x;
    }

    private static void cordReachesSoFar() {
        for (int cord = 1; cord <= 5; cord++) {
            for (int from = 0; from <= 5; from++) {
                for (int to = 0; to <= 5; to++) {
                    int off = Math.abs(to - from);
                    String what = "11: cord " + cord + " from " + from + " to " + to;
                    for (String kite : KITES) {
                        int most = kite.equals("slow") ? 1 : cord;
                        KiteBarges x = inLayer(cord, kite, from);
                        is(what, x.cord(2, to), off <= most ? off : OUTSIDE);
                        is(what + ", layer", x.at(2, 2), off <= most ? to : from);
                        is(what + ", cord run", x.at(2, 3), off <= most ? from + off : from);
                    }
                }
                for (int to : Numbers.outside(0, 5)) {
                    is("11: no layer " + to, inLayer(cord, "plain", from).cord(2, to), OUTSIDE);
                }
            }
        }
    }

    // ---- "more than CORD off that which it had behind the last HOUR"

    private static void cordReachesFromTheLastHour() {
        KiteBarges x = inLayer(2, "plain", 3);
        is("11: two down", x.cord(2, 1), 2);
        is("11: four up, two off the last hour's", x.cord(2, 5), 4);
        is("11: one below the reach of the cord", x.cord(2, 0), OUTSIDE);
        is("11: it is where it was", x.at(2, 2), 5);
        is("11: to where it is", x.cord(2, 5), 0);
        is("11: back", x.cord(2, 3), 2);
        is("13: cord run", x.at(2, 3), 11);
        x.cord(2, 5);
        x.go(1);
        is("11: three down of the last hour's", x.cord(2, 2), OUTSIDE);
        is("11: two down of it", x.cord(2, 3), 2);
        x.go(1);
        is("11: now one", x.cord(2, 2), 1);
        is("11: and two", x.cord(2, 1), 1);
        is("11: not three", x.cord(2, 0), OUTSIDE);
    }

    // ---- "CORD RUN is by how many LAYERS it was changed, each change together (also there and back ahead of one HOUR)"

    private static void cordRunIsOfEachChange() {
        KiteBarges x = Due.told("open 0 20;barge 0 1 5 plain 0;barge 1 1 5 plain 0");
        int run = 0;
        for (int time = 0; time < 20; time++) {
            is("11: five", x.cord(0, time % 2 == 0 ? 5 : 0), 5);
            run += 5;
            is("13: together", x.at(0, 3), run);
        }
        is("11: no change", x.cord(0, 0), 0);
        is("13: runs no cord", x.at(0, 3), 100);
        is("13: nor does another barge", x.at(1, 3), 0);
        x.go(1);
        is("13: nor does an hour", x.at(0, 3), 100);
    }

    // ---- "NOT: it is THERE, no HOURS are left"

    private static void cordIsNotNow() {
        KiteBarges x = Due.told("open 0 1;wind 0 22 23 0 9;barge 0 1 5 plain 0;barge 1 60 2 plain 0");
        x.go(22);
        is("11: not there as yet", x.cord(0, 0), 0);
        is("11: hours are left", x.cord(1, 1), 1);
        x.go(1);
        is("13: there", x.at(0, 0), NONE);
        is("11: there", x.cord(0, 0), NOT);
        is("11: there, another layer", x.cord(0, 5), NOT);
        is("11: the last hour is left", x.cord(1, 2), 1);
        x.go(1);
        is("11: no hour is left", x.cord(1, 2), NOT);
        is("11: to another layer", x.cord(1, 0), NOT);
        is("11: OUTSIDE ahead of NOT, no hour", x.cord(1, 5), OUTSIDE);
        is("11: OUTSIDE ahead of NOT, no layer", x.cord(1, 6), OUTSIDE);
        is("11: OUTSIDE ahead of NOT, there", x.cord(0, -1), OUTSIDE);
        is("13: layers are as they were", x.at(0, 2) * 10 + x.at(1, 2), 2);
        is("13: cords, too", x.at(0, 3) * 10 + x.at(1, 3), 2);
        Due.tell(x, "dry;barge 2 1 1 plain 0");
        is("11: without reaches it is there", x.cord(0, 1), NOT);
        is("11: OUTSIDE there, too", x.cord(2, 2), OUTSIDE);
    }

    // ---- "n HOURS go (1 .. 24, no more than are left): HOURS that have gone in all. OUTSIDE."

    private static void hoursAreOneToAllThatAreLeft() {
        for (int gone = 0; gone <= 24; gone++) {
            for (int n = 1; n <= 24; n++) {
                KiteBarges x = Due.told("open 0 20;open 0 20;wind 0 0 23 0 1;barge 0 10 1 plain 0");
                if (gone > 0) {
                    x.go(gone);
                }
                int want = Math.min(24, gone + n);
                is("12: " + n + " behind " + gone, x.go(n), want);
                is("26: " + n + " behind " + gone, x.count(3), want);
                is("12: yards", x.at(0, 0) * 20 + x.at(0, 1), want);
            }
        }
        for (int n : Numbers.outside(1, 24)) {
            KiteBarges x = Due.told("open 0 20;wind 0 0 23 0 1;barge 0 10 1 plain 0");
            is("12: n " + n, x.go(n), OUTSIDE);
            x.go(24);
            is("12: none is left, n " + n, x.go(n), OUTSIDE);
            is("12: hours", x.count(3), 24);
        }
    }

    private static void hoursGoForAllBarges() {
        KiteBarges x = Due.told("open 0 20;wind 0 0 23 0 3;barge 0 30 1 plain 0;barge 1 15 1 plain 0;barge 3 10 1 plain 0");
        x.go(3);
        is("12: barge 0", x.at(0, 1), 3);
        is("12: barge 1", x.at(1, 1), 6);
        is("12: barge 2 is not told", x.at(2, 1), UNKNOWN);
        is("12: barge 3", x.at(3, 1), 9);
    }

    // ---- "HOURS in which it stayed where it was, and was not THERE (4)"

    private static void stayedIsCounted() {
        KiteBarges x = Due.told("open 0 20;barge 0 10 1 plain 0;barge 1 10 1 plain 0");
        x.go(24);
        is("13: all hours", x.at(0, 4), 24);
        x.go(1);
        is("13: no more", x.at(0, 4), 24);
        Due.tell(x, "wind 0 1 1 0 2;wind 0 3 3 0 9;dry;open 0 5;open 0 5;wind 0 5 5 0 9");
        int[] stayed = {1, 1, 2, 2, 3, 3, 3, 3};
        for (int hour = 0; hour < stayed.length; hour++) {
            x.go(1);
            is("13: behind hour " + hour, x.at(0, 4), stayed[hour]);
        }
        is("13: there", x.at(1, 0), NONE);
        Due.tell(x, "dry");
        x.go(24);
        is("13: there at once it does not stay", x.at(0, 4), 0);
    }

    // ---- "REACH (what 0; NONE: it is THERE), YARD (1), LAYER (2), CORD RUN (3)"

    private static void thereIsTold() {
        KiteBarges x = Due.told("open 0 9;wind 4 0 23 0 9;barge 3 1 5 sail 0");
        x.cord(3, 5);
        x.cord(3, 4);
        x.go(1);
        int[] want = {NONE, 0, 4, 6, 0};
        for (int what = 0; what < 5; what++) {
            is("13: there " + what, x.at(3, what), want[what]);
        }
        for (int what : Numbers.outside(0, 4)) {
            is("13: what " + what, x.at(3, what), OUTSIDE);
        }
        Due.tell(x, "dry");
        int[] atOnce = {NONE, 0, 0, 0, 0};
        for (int what = 0; what < 5; what++) {
            is("13: there at once " + what, x.at(3, what), atOnce[what]);
        }
    }

    // ---- "A KNOT: two BARGES behind an HOUR in one REACH, in one LAYER, less than 2 YARDS apart."

    private static void knotsAreLessThanTwoYards() {
        for (int one = 0; one <= 9; one++) {
            for (int other = 0; other <= 9; other++) {
                // Layer 0 brings barge 1 as far, layer 1 barge 2; then both are in layer 0.
                KiteBarges x = Due.told("open 0 20;wind 0 0 0 0 " + one + ";wind 1 0 0 0 " + other
                        + ";barge 1 10 1 plain 0;barge 2 10 1 plain 0");
                x.cord(2, 1);
                x.go(1);
                is("14: in other layers", x.knots(1), 0);
                x.cord(2, 0);
                int apart = Math.abs(one - other);
                is("14: yards " + one + " and " + other, x.knots(1), apart < 2 ? 4 : 0);
                is("14: of the other one", x.knots(2), apart < 2 ? 2 : 0);
            }
        }
    }

    private static void knotsAreInOneReachAndLayer() {
        // Barge 0 at yard 19 of reach 0, barge 1 at yard 0 of reach 1; then yard 1 of reach 1, and there.
        KiteBarges x = Due.told("open 0 20;open 0 20;wind 0 0 0 0 2;wind 0 1 23 0 9;barge 0 1 5 plain 0;barge 1 1 5 paired 0");
        Due.tell(x, "wind 0 0 0 1 7;barge 0 5 5 paired 0;barge 1 2 5 paired 0");
        x.go(1);
        is("13: the last yard of reach 0", x.at(0, 1), 19);
        is("13: the first of reach 1", x.at(1, 0) * 100 + x.at(1, 1), 100);
        is("14: not in one reach", x.knots(0) + x.knots(1), 0);
        x.go(1);
        is("13: one is there", x.at(1, 0), NONE);
        is("13: one is not", x.at(0, 0), 1);
        is("14: none who is there", x.knots(0), 0);
        is("14: nor of one who is there", x.knots(1), 0);
        x.go(1);
        is("14: both are there", x.knots(0) + x.knots(1), 0);
        for (int layer = 0; layer < 6; layer++) {
            for (int other = 0; other < 6; other++) {
                KiteBarges y = Due.told("open 0 20;barge 0 1 5 plain 0;barge 3 1 5 plain 0");
                y.cord(0, layer);
                y.cord(3, other);
                is("14: layers " + layer + " and " + other, y.knots(0), layer == other ? 8 : 0);
                y.go(1);
                is("14: behind an hour", y.knots(3), layer == other ? 1 : 0);
            }
        }
    }

    // ---- "BARGES that are in a KNOT with a BARGE as they are now, by bits (none, who is THERE)"

    private static void knotsAreOfBargesTold() {
        KiteBarges x = Due.told("open 0 20;barge 0 1 5 plain 0;barge 1 1 5 plain 0;barge 2 1 5 plain 0;barge 3 1 5 plain 0");
        for (int barge = 0; barge < 4; barge++) {
            is("14: all but itself", x.knots(barge), 15 - (1 << barge));
        }
        x.go(1);
        is("14: behind an hour", x.knots(2), 11);
        Due.tell(x, "sold 1");
        is("14: one is sold", x.knots(0), 12);
        is("14: that one", x.knots(1), UNKNOWN);
        Due.tell(x, "dry");
        is("14: without reaches all are there", x.knots(0), 0);
        Due.tell(x, "sold 0;sold 2;open 0 1");
        is("14: alone", x.knots(3), 0);
    }

    // ---- "HOURS, BARGES as they are now are kept (k 0, 1): HOURS."; "They are as they were kept: HOURS."

    private static void hoursAreKept() {
        for (int k = 0; k < 2; k++) {
            for (int gone = 0; gone <= 24; gone++) {
                KiteBarges x = Due.told("open 0 20;open 0 20;wind 0 0 23 0 1;barge 0 10 1 plain 0");
                if (gone > 0) {
                    x.go(gone);
                }
                is("15: hours " + gone, x.keep(k), gone);
                is("16: the other is not kept", x.back(1 - k), NOT);
                x.go(24);
                is("16: back to " + gone, x.back(k), gone);
                is("26: hours", x.count(3), gone);
                is("16: yards", x.at(0, 0) * 20 + x.at(0, 1), gone);
                is("12: hours go again", x.go(1), Math.min(24, gone + 1));
            }
        }
    }

    private static void keptIsNotChangedByHours() {
        KiteBarges x = Due.told("open 0 20;wind 0 0 23 0 1;wind 2 0 23 0 2;barge 0 10 2 plain 0;barge 3 5 1 sail 0");
        x.go(2);
        x.cord(0, 2);
        x.cord(0, 1);
        x.keep(0);
        int[][] kept = {{0, 2, 1, 3, 0}, {0, 4, 0, 0, 0}};
        for (int time = 0; time < 3; time++) {
            is("16: hours", x.back(0), 2);
            for (int what = 0; what < 5; what++) {
                is("16: barge 0, " + what, x.at(0, what), kept[0][what]);
                is("16: barge 3, " + what, x.at(3, what), kept[1][what]);
            }
            is("16: a cord's reach is kept", x.cord(0, 3), OUTSIDE);
            is("16: up to two", x.cord(0, 2), 1);
            x.cord(3, 1);
            x.go(5 + time);
            is("15: the other", x.keep(1), 7 + time);
        }
        is("16: the other, as kept last", x.back(1), 9);
        is("15: kept over", x.keep(0), 9);
        is("16: as kept last", x.back(0), 9);
        is("16: yard", x.at(0, 1), 16);
        is("16: stayed", x.at(3, 4), 7);
    }

    // ---- "NOT: nothing was kept since the last text"

    private static void keptIsSinceTheLastText() {
        KiteBarges x = Due.told("open 0 20;barge 0 10 2 plain 0");
        is("16: nothing", x.back(0) + x.back(1), 2 * NOT);
        x.go(3);
        x.keep(0);
        x.keep(1);
        Due.write(x, "still 10");
        is("5: a fault", x.river(), NOT);
        is("16: kept still", x.back(0) + x.back(1), 6);
        x.erase();
        is("5: an empty text", x.river(), NOT);
        is("16: kept then, too", x.back(0) + x.back(1), 6);
        Due.tell(x, "still 9");
        is("16: nothing is kept", x.back(0) + x.back(1), 2 * NOT);
        is("15: hour 0", x.keep(1), 0);
        x.go(1);
        is("16: the other one", x.back(0), NOT);
        is("12: hours go on", x.go(1), 2);
        is("16: hour 0", x.back(1), 0);
    }
}
