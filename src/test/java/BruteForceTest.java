import java.util.Arrays;
import java.util.HashMap;
import java.util.Map;
import java.util.Random;

/** Rivers made at random: each answer against a model that tries every way there is. */
public final class BruteForceTest {
    private static final Due DUE = new Due();
    private static final int DEEP = 4;

    public static void main(String[] args) {
        for (int seed = 0; seed < 300; seed++) {
            Random random = new Random(seed);
            String[] texts = Texts.river(random, 1 + random.nextInt(seed % 2 == 0 ? 3 : 8));
            Anew a = new Anew(texts);
            Model model = new Model(Due.told(texts));
            plans(a, model, seed, random);
            clears(a, model, seed);
            lulls(a, model, seed, random);
            lines(a, model, seed);
            books(a, model, seed);
            for (int time = 0; time < 5; time++) {
                hours(Due.told(texts), model, seed, random);
            }
        }
        DUE.end();
    }

    /** What is told, asked from an object once; and a barge gone by it, place by place. */
    private static final class Model {
        final int reaches;
        final int[][] reach;
        final int[][][] wind = new int[6][24][2];
        final int[][] barge = new int[4][4];
        final int still;

        Model(KiteBarges x) {
            reaches = x.count(0);
            still = x.count(2);
            reach = new int[reaches][3];
            for (int r = 0; r < reaches; r++) {
                for (int what = 0; what < 3; what++) {
                    reach[r][what] = x.reach(r, what);
                }
            }
            for (int layer = 0; layer < 6; layer++) {
                for (int hour = 0; hour < 24; hour++) {
                    wind[layer][hour][0] = x.wind(layer, hour, 0);
                    wind[layer][hour][1] = x.wind(layer, hour, 1);
                }
            }
            for (int b = 0; b < 4; b++) {
                for (int what = 0; what < 4; what++) {
                    barge[b][what] = x.barge(b, what);
                }
            }
        }

        int yards(int b, int r, int layer, int hour) {
            int turn = Math.floorMod(wind[layer][hour][0] - reach[r][0], 8);
            int off = turn > 4 ? 8 - turn : turn;
            int kite = barge[b][2];
            int times = off == 0 ? 10 : off == 1 ? 7 : off == 2 && kite >= 3 ? 5 : 0;
            int pulled = times * wind[layer][hour][1];
            if (kite == 1) {
                pulled = pulled * 2;
            } else if (kite == 4) {
                pulled = (pulled - pulled % 2) / 2;
            }
            boolean isShadowed = reach[r][2] == 1 && layer >= 2;
            return isShadowed ? 0 : pulled / barge[b][0];
        }

        /** A reach and a yard behind an hour; the reach behind the last is there. */
        int[] moved(int b, int[] from, int layer, int hour) {
            if (from[0] == reaches) {
                return from;
            }
            int longIs = reach[from[0]][1];
            int yard = from[1] + yards(b, from[0], layer, hour);
            if (yard < longIs) {
                return new int[] {from[0], yard};
            }
            boolean isShut = reach[from[0]][2] == 2 && wind[0][hour][1] > still;
            return isShut ? new int[] {from[0], longIs - 1} : new int[] {from[0] + 1, 0};
        }

        boolean isKnot(int[] a, int layerOfA, int[] b, int layerOfB) {
            return a[0] < reaches && b[0] < reaches && a[0] == b[0] && layerOfA == layerOfB && Math.abs(a[1] - b[1]) <= 1;
        }
    }

    /** A passage: its cord run, its layers; for a clear one, the places and layers of the other. */
    private static final class Passage {
        int run = Integer.MAX_VALUE;
        int[] row = null;
    }

    /** Tries all rows of so many hours, in order. */
    private static void tryRows(Model m, int b, int start, int[] row, int filled, int[] at, int run, int[][] other, Passage best) {
        if (filled == row.length) {
            if (at[0] == m.reaches && run < best.run) {
                best.run = run;
                best.row = row.clone();
            }
            return;
        }
        int last = filled == 0 ? 0 : row[filled - 1];
        for (int layer = 0; layer < 6; layer++) {
            if (Math.abs(layer - last) > m.barge[b][1]) {
                continue;
            }
            int[] next = m.moved(b, at, layer, start + filled);
            int[] line = other[start + filled];
            if (m.isKnot(next, layer, line, line[2])) {
                continue;
            }
            row[filled] = layer;
            tryRows(m, b, start, row, filled + 1, next, run + Math.abs(layer - last), other, best);
        }
    }

    private static int[][] nobody(Model m) {
        int[][] line = new int[24][];
        Arrays.fill(line, new int[] {m.reaches, 0, 0});
        return line;
    }

    /** The soonest passage of DEEP hours at most, by trying all; null, if none is so short. */
    private static Passage byTrying(Model m, int b, int start, int[][] other) {
        for (int hours = 1; hours <= DEEP && start + hours <= 24; hours++) {
            Passage best = new Passage();
            tryRows(m, b, start, new int[hours], 0, new int[] {0, 0}, 0, other, best);
            if (best.row != null) {
                return best;
            }
        }
        return null;
    }

    /** The least hours and cord run from a place on, as hours * 1000 + run: from behind. */
    private static int left(Model m, int b, int hour, int[] at, int layer, int[][] other, Map<Integer, Integer> known) {
        if (at[0] == m.reaches) {
            return 0;
        }
        if (hour == 24) {
            return 1_000_000;
        }
        int key = ((hour * 8 + at[0]) * 20 + at[1]) * 6 + layer;
        Integer had = known.get(key);
        if (had != null) {
            return had;
        }
        int best = 1_000_000;
        for (int to = 0; to < 6; to++) {
            best = Math.min(best, by(m, b, hour, at, layer, to, other, known));
        }
        known.put(key, best);
        return best;
    }

    private static int by(Model m, int b, int hour, int[] at, int layer, int to, int[][] other, Map<Integer, Integer> known) {
        int change = Math.abs(to - layer);
        int[] next = m.moved(b, at, to, hour);
        if (change > m.barge[b][1] || m.isKnot(next, to, other[hour], other[hour][2])) {
            return 1_000_000;
        }
        return Math.min(1_000_000, 1000 + change + left(m, b, hour + 1, next, to, other, known));
    }

    /** The soonest passage from behind: null, if there is none. */
    private static Passage fromBehind(Model m, int b, int start, int[][] other) {
        Map<Integer, Integer> known = new HashMap<>();
        int[] at = {0, 0};
        int total = left(m, b, start, at, 0, other, known);
        if (total >= 1_000_000) {
            return null;
        }
        Passage passage = new Passage();
        passage.run = total % 1000;
        passage.row = new int[total / 1000];
        int layer = 0;
        for (int i = 0; i < passage.row.length; i++) {
            int to = 0;
            int want = left(m, b, start + i, at, layer, other, known);
            while (by(m, b, start + i, at, layer, to, other, known) != want) {
                to++;
            }
            passage.row[i] = to;
            at = m.moved(b, at, to, start + i);
            layer = to;
        }
        return passage;
    }

    private interface Asked {
        int at(int i);
    }

    private static void same(String what, Asked asked, Passage want) {
        DUE.is(what + " hours", asked.at(-2), want == null ? -1 : want.row.length);
        DUE.is(what + " cord run", asked.at(-1), want == null ? -1 : want.run);
        for (int i = 0; i < 25; i++) {
            DUE.is(what + " layer " + i, asked.at(i), want == null || i >= want.row.length ? -1 : want.row[i]);
        }
    }

    private static void plans(Anew a, Model m, int seed, Random random) {
        for (int barge = 0; barge < 4; barge++) {
            int b = barge;
            for (int start : new int[] {0, 1, random.nextInt(24), 20, 21, 22, 23}) {
                String what = "seed " + seed + ": soonest of " + b + " from " + start;
                same(what, i -> a.x().soonest(b, start, i), fromBehind(m, b, start, nobody(m)));
                Passage tried = byTrying(m, b, start, nobody(m));
                if (tried != null || start + DEEP >= 24) {
                    same(what + " by trying", i -> a.x().soonest(b, start, i), tried);
                } else {
                    int hours = a.x().soonest(b, start, -2);
                    DUE.holds(what + " is longer", hours == -1 || hours > DEEP);
                }
            }
        }
    }

    /** Where a barge is behind each hour, by its soonest passage from hour 0: reach, yard, layer. */
    private static int[][] line(Model m, int b, Passage passage) {
        int[][] line = nobody(m);
        int[] at = {0, 0};
        for (int hour = 0; hour < passage.row.length; hour++) {
            at = m.moved(b, at, passage.row[hour], hour);
            line[hour] = new int[] {at[0], at[1], passage.row[hour]};
        }
        return line;
    }

    private static void clears(Anew a, Model m, int seed) {
        for (int barge = 0; barge < 4; barge++) {
            for (int other = 0; other < 4; other++) {
                if (barge == other) {
                    continue;
                }
                int b = barge;
                int o = other;
                String what = "seed " + seed + ": " + b + " clear of " + o;
                Passage ahead = fromBehind(m, o, 0, nobody(m));
                if (ahead == null) {
                    DUE.is(what, a.x().clear(b, o, -2), -4);
                    continue;
                }
                int[][] line = line(m, o, ahead);
                same(what, i -> a.x().clear(b, o, i), fromBehind(m, b, 1, line));
                Passage tried = byTrying(m, b, 1, line);
                if (tried != null) {
                    same(what + " by trying", i -> a.x().clear(b, o, i), tried);
                }
            }
        }
    }

    /** The odds of a row of layers, by all rows of lulls; bit h of a number is a lull in hour h. */
    private static long oddsOf(Model m, int b, int[] row, int n, int p) {
        long sum = 0;
        for (int lulls = 0; lulls < 1 << n; lulls++) {
            long chance = 1;
            int[] at = {0, 0};
            for (int hour = 0; hour < n; hour++) {
                boolean isLull = (lulls >> hour & 1) == 1;
                chance *= isLull ? p : 10 - p;
                at = isLull ? at : m.moved(b, at, row[Math.min(hour, row.length - 1)], hour);
            }
            sum += at[0] == m.reaches ? chance : 0;
        }
        return sum;
    }

    /** One who sees, with n hours of his in all. */
    private record Seer(Model m, int b, int n, int p, Map<Integer, Long> known) {
        long oddsOf(int[] at, int layer, int hour) {
            if (hour == n) {
                return at[0] == m.reaches ? 1 : 0;
            }
            int key = ((hour * 9 + at[0]) * 20 + at[1]) * 6 + layer;
            Long had = known.get(key);
            if (had != null) {
                return had;
            }
            long ifLull = 0;
            long ifWind = 0;
            for (int to = 0; to < 6; to++) {
                if (Math.abs(to - layer) <= m.barge[b][1]) {
                    ifLull = Math.max(ifLull, oddsOf(at, to, hour + 1));
                    ifWind = Math.max(ifWind, oddsOf(m.moved(b, at, to, hour), to, hour + 1));
                }
            }
            known.put(key, ifLull * p + ifWind * (10 - p));
            return ifLull * p + ifWind * (10 - p);
        }
    }

    private static long sightOf(Model m, int b, int n, int p) {
        return new Seer(m, b, n, p, new HashMap<>()).oddsOf(new int[] {0, 0}, 0, 0);
    }

    private static long blindOf(Model m, int b, int[] row, int filled, int p) {
        if (filled == row.length) {
            return oddsOf(m, b, row, row.length, p);
        }
        long best = 0;
        for (int layer = 0; layer < 6; layer++) {
            if (Math.abs(layer - (filled == 0 ? 0 : row[filled - 1])) <= m.barge[b][1]) {
                row[filled] = layer;
                best = Math.max(best, blindOf(m, b, row, filled + 1, p));
            }
        }
        return best;
    }

    private static void sameOdds(String what, long above, long below, long want, int n) {
        long ten = 1;
        for (int i = 0; i < n; i++) {
            ten *= 10;
        }
        long a = want;
        long b = ten;
        while (b != 0) {
            long rest = a % b;
            a = b;
            b = rest;
        }
        DUE.is(what + " above", above, want / a);
        DUE.is(what + " below", below, ten / a);
    }

    private static void lulls(Anew a, Model m, int seed, Random random) {
        for (int b = 0; b < 4; b++) {
            int n = random.nextInt(9);
            int p = random.nextInt(11);
            String what = "seed " + seed + ": barge " + b + ", p " + p + ", n ";
            Passage soonest = fromBehind(m, b, 0, nobody(m));
            if (soonest == null) {
                DUE.is(what + n + ": odds", a.x().odds(b, n, p, 0), -4);
            } else {
                sameOdds(what + n + ": odds", a.x().odds(b, n, p, 0), a.x().odds(b, n, p, 1), oddsOf(m, b, soonest.row, n, p), n);
            }
            sameOdds(what + n + ": sight", a.x().sight(b, n, p, 0), a.x().sight(b, n, p, 1), sightOf(m, b, n, p), n);
            int few = random.nextInt(5);
            long seen = sightOf(m, b, few, p);
            long unseen = blindOf(m, b, new int[few], 0, p);
            sameOdds(what + few + ": sight", a.x().sight(b, few, p, 0), a.x().sight(b, few, p, 1), seen, few);
            sameOdds(what + few + ": blind", a.x().blind(b, few, p, 0), a.x().blind(b, few, p, 1), unseen, few);
            sameOdds(what + few + ": worth", a.x().worth(b, few, p, 0), a.x().worth(b, few, p, 1), seen - unseen, few);
            sightIsNotBelowOdds(a, b, n, p, what);
        }
    }

    private static void sightIsNotBelowOdds(Anew a, int b, int n, int p, String what) {
        long odds = a.x().odds(b, n, p, 0);
        if (odds >= 0) {
            long below = a.x().odds(b, n, p, 1);
            DUE.holds(what + n + ": sight is not below odds",
                    a.x().sight(b, n, p, 0) * below >= odds * a.x().sight(b, n, p, 1));
        }
    }

    private static void lines(Anew a, Model m, int seed) {
        int[][] bits = new int[m.reaches][6];
        for (int b = 0; b < 4; b++) {
            int[][] first = new int[m.reaches][6];
            for (int[] row : first) {
                Arrays.fill(row, -1);
            }
            Passage passage = fromBehind(m, b, 0, nobody(m));
            int[][] line = passage == null ? nobody(m) : line(m, b, passage);
            for (int hour = 23; hour >= 0; hour--) {
                if (line[hour][0] < m.reaches) {
                    first[line[hour][0]][line[hour][2]] = hour;
                    bits[line[hour][0]][line[hour][2]] |= 1 << b;
                }
            }
            for (int r = 0; r < m.reaches; r++) {
                for (int layer = 0; layer < 6; layer++) {
                    DUE.is("seed " + seed + ": first(" + b + ", " + r + ", " + layer + ")", a.x().first(b, r, layer), first[r][layer]);
                }
            }
        }
        for (int r = 0; r < m.reaches; r++) {
            for (int layer = 0; layer < 6; layer++) {
                DUE.is("seed " + seed + ": found(" + r + ", " + layer + ")", a.x().found(r, layer), bits[r][layer]);
            }
        }
    }

    private static void books(Anew a, Model m, int seed) {
        for (int b = 0; b < 4; b++) {
            int often = 0;
            int hour = 0;
            Passage passage = fromBehind(m, b, 0, nobody(m));
            while (passage != null) {
                often++;
                hour += passage.row.length;
                passage = hour < 24 ? fromBehind(m, b, hour, nobody(m)) : null;
            }
            DUE.is("seed " + seed + ": books of " + b, a.x().books(b, 0), often);
            DUE.is("seed " + seed + ": freight of " + b, a.x().books(b, 1), often * m.barge[b][3]);
        }
    }

    /** Barges gone hour by hour: reach, yard, layer, cord run, hours stayed, the last hour's layer. */
    private static void hours(KiteBarges x, Model m, int seed, Random random) {
        int[][] at = new int[4][6];
        int[][][] kept = new int[2][][];
        int[] keptHours = new int[2];
        int hours = 0;
        for (int call = 0; call < 16; call++) {
            String what = "seed " + seed + ", call " + call + ": ";
            int k = random.nextInt(2);
            switch (random.nextInt(8)) {
                case 0:
                    int n = 1 + random.nextInt(3);
                    for (int i = 0; i < n && hours < 24; i++) {
                        oneHour(m, at, hours++);
                    }
                    DUE.is(what + "go", x.go(n), hours);
                    break;
                case 1:
                    DUE.is(what + "keep", x.keep(k), hours);
                    kept[k] = copy(at);
                    keptHours[k] = hours;
                    break;
                case 2:
                    DUE.is(what + "back", x.back(k), kept[k] == null ? -4 : keptHours[k]);
                    at = kept[k] == null ? at : copy(kept[k]);
                    hours = kept[k] == null ? hours : keptHours[k];
                    break;
                default:
                    int b = random.nextInt(4);
                    int layer = random.nextInt(6);
                    DUE.is(what + "cord", x.cord(b, layer), corded(m, at[b], b, layer, hours));
                    break;
            }
            sameHours(x, m, at, what);
        }
    }

    private static int corded(Model m, int[] at, int b, int layer, int hours) {
        if (Math.abs(layer - at[5]) > m.barge[b][1]) {
            return -3;
        }
        if (at[0] == m.reaches || hours == 24) {
            return -4;
        }
        int by = Math.abs(layer - at[2]);
        at[2] = layer;
        at[3] += by;
        return by;
    }

    private static void oneHour(Model m, int[][] at, int hour) {
        for (int b = 0; b < 4; b++) {
            if (at[b][0] < m.reaches) {
                int[] next = m.moved(b, new int[] {at[b][0], at[b][1]}, at[b][2], hour);
                if (next[0] == at[b][0] && next[1] == at[b][1]) {
                    at[b][4]++;
                }
                at[b][0] = next[0];
                at[b][1] = next[1];
            }
            at[b][5] = at[b][2];
        }
    }

    private static int[][] copy(int[][] rows) {
        int[][] copy = new int[rows.length][];
        for (int i = 0; i < rows.length; i++) {
            copy[i] = rows[i].clone();
        }
        return copy;
    }

    private static void sameHours(KiteBarges x, Model m, int[][] at, String what) {
        for (int b = 0; b < 4; b++) {
            int knots = 0;
            for (int other = 0; other < 4; other++) {
                if (other != b && m.isKnot(at[b], at[b][2], at[other], at[other][2])) {
                    knots |= 1 << other;
                }
            }
            DUE.is(what + "knots of " + b, x.knots(b), knots);
            for (int i = 0; i < 5; i++) {
                int want = i == 0 && at[b][0] == m.reaches ? -1 : at[b][i];
                DUE.is(what + "at(" + b + ", " + i + ")", x.at(b, i), want);
            }
        }
    }
}
