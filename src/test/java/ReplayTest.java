import java.util.ArrayList;
import java.util.List;
import java.util.Random;

/**
 * Long runs of calls at random. Each call that only tells or plans has to answer as on a new object on which
 * nothing was called but what changes something: so no call leaves a trace that it should not leave, and
 * what was planned for one text is not told behind the next.
 */
public final class ReplayTest {
    private static final int MOST_CALLS = 512;
    private static final Due DUE = new Due();

    private interface Call {
        long on(KiteBarges x);
    }

    public static void main(String[] args) {
        for (int seed = 0; seed < 60; seed++) {
            run(seed, new Random(seed));
        }
        DUE.end();
    }

    private static void run(int seed, Random random) {
        KiteBarges x = new KiteBarges();
        List<Call> changes = new ArrayList<>();
        for (String text : Texts.river(random, 1 + random.nextInt(4))) {
            tell(x, changes, text);
        }
        int calls = changes.size();
        while (calls < MOST_CALLS - 40) {
            if (random.nextInt(30) == 0) {
                int had = changes.size();
                tell(x, changes, Texts.line(random));
                calls += changes.size() - had;
            } else if (random.nextInt(4) == 0) {
                Call change = change(random);
                long answer = change.on(x);
                DUE.is("seed " + seed + ", call " + calls + ", a change", answer, change.on(replayed(changes)));
                changes.add(change);
                calls++;
            } else {
                Call asking = asking(random);
                long answer = asking.on(x);
                DUE.is("seed " + seed + ", call " + calls, answer, asking.on(replayed(changes)));
                calls++;
            }
        }
    }

    private static KiteBarges replayed(List<Call> changes) {
        KiteBarges x = new KiteBarges();
        for (Call change : changes) {
            change.on(x);
        }
        return x;
    }

    /** Writes a text and does it; if it has a fault (a ninth reach), it is erased. */
    private static void tell(KiteBarges x, List<Call> changes, String text) {
        List<Call> told = new ArrayList<>();
        for (int from = 0; from < text.length(); from += 8) {
            String part = text.substring(from, Math.min(text.length(), from + 8));
            told.add(y -> Due.write(y, part));
        }
        told.add(KiteBarges::river);
        told.add(KiteBarges::erase);
        for (Call call : told) {
            call.on(x);
            changes.add(call);
        }
    }

    private static Call change(Random random) {
        int barge = random.nextInt(4);
        int layer = random.nextInt(6);
        int n = 1 + random.nextInt(2);
        int k = random.nextInt(2);
        switch (random.nextInt(6)) {
            case 0: return x -> x.go(n);
            case 1: return x -> x.keep(k);
            case 2: return x -> x.back(k);
            default: return x -> x.cord(barge, layer);
        }
    }

    private static Call asking(Random random) {
        int barge = random.nextInt(4);
        int other = random.nextInt(4);
        int reach = random.nextInt(4);
        int layer = random.nextInt(6);
        int hour = random.nextInt(24);
        int i = random.nextInt(8) - 2;
        int n = random.nextInt(9);
        int p = random.nextInt(11);
        int part = random.nextInt(2);
        switch (random.nextInt(15)) {
            case 0: return x -> x.at(barge, n);
            case 1: return x -> x.knots(barge);
            case 2: return x -> x.yards(barge, reach, layer, hour);
            case 3: return x -> x.barge(barge, part);
            case 4: return x -> x.soonest(barge, hour, i);
            case 5: case 6: return x -> x.soonest(barge, 0, i);
            case 7: case 8: return x -> x.clear(barge, other, i);
            case 9: return x -> x.odds(barge, n, p, part);
            case 10: return x -> x.sight(barge, n, p, part);
            case 11: return x -> x.worth(barge, n / 2, p, part);
            case 12: return x -> x.found(reach, layer);
            case 13: return x -> x.first(barge, reach, layer);
            default: return x -> x.books(barge, part);
        }
    }
}
