import java.util.ArrayList;
import java.util.List;
import java.util.Random;

/** Lines made at random, without faults but that a ninth reach may be told; and texts with faults. */
final class Texts {
    private static final String[] REACHES = {"open", "trees", "lock"};
    private static final String[] KITES = {"plain", "paired", "slow", "sail", "torn"};

    private Texts() {
    }

    static String line(Random random) {
        switch (random.nextInt(16)) {
            case 0: return "still " + random.nextInt(10);
            case 1: return "sold " + random.nextInt(4);
            case 2: return random.nextInt(4) == 0 ? "dry" : reach(random);
            case 3: case 4: case 5: return reach(random);
            case 6: case 7: case 8: return barge(random, random.nextInt(4));
            default: return wind(random, random.nextInt(6));
        }
    }

    private static final String[] PIECES = {"open", "trees", "lock", "dry", "wind", "barge", "sold", "still", "plain",
        "paired", "slow", "sail", "torn", ";", " ", "  ", "0", "1", "2", "7", "9", "23", "60", "99", "100", "x", "\0", "A"};

    /** Some lines, mostly without a fault. */
    static String wild(Random random) {
        StringBuilder text = new StringBuilder();
        int lines = random.nextInt(9);
        for (int i = 0; i <= lines; i++) {
            text.append(i > 0 ? ";" : "").append(line(random));
        }
        while (random.nextInt(4) == 0) {
            text.insert(random.nextInt(text.length() + 1), PIECES[random.nextInt(PIECES.length)]);
        }
        return text.toString();
    }

    /** Ways are mostly near one another, so that there is wind for most reaches. */
    private static int way(Random random) {
        return random.nextInt(5) == 0 ? random.nextInt(8) : random.nextInt(4);
    }

    static String reach(Random random) {
        return REACHES[random.nextInt(3)] + " " + way(random) + " " + (1 + random.nextInt(20));
    }

    static String barge(Random random, int barge) {
        int weight = 1 + random.nextInt(random.nextInt(4) == 0 ? 60 : 9);
        return "barge " + barge + " " + weight + " " + (1 + random.nextInt(5)) + " " + KITES[random.nextInt(5)] + " "
                + random.nextInt(100);
    }

    static String wind(Random random, int layer) {
        int from = random.nextInt(3) == 0 ? random.nextInt(24) : 0;
        int to = from + random.nextInt(24 - from);
        return "wind " + layer + " " + from + " " + (random.nextInt(2) == 0 ? 23 : to) + " " + way(random) + " "
                + random.nextInt(10);
    }

    /** Texts that tell some reaches, winds in most layers, and all barges. */
    static String[] river(Random random, int reaches) {
        List<String> lines = new ArrayList<>();
        for (int i = 0; i < reaches; i++) {
            lines.add(reach(random));
        }
        for (int layer = 0; layer < 6; layer++) {
            for (int i = random.nextInt(3); i >= 0; i--) {
                lines.add(wind(random, layer));
            }
        }
        for (int barge = 0; barge < 4; barge++) {
            lines.add(barge(random, barge));
        }
        lines.add("still " + random.nextInt(10));
        String[] texts = new String[(lines.size() + 7) / 8];
        for (int i = 0; i < texts.length; i++) {
            texts[i] = String.join(";", lines.subList(8 * i, Math.min(lines.size(), 8 * i + 8)));
        }
        return texts;
    }
}
