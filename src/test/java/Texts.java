import java.util.Random;

/** Lines made at random, without faults but that a ninth reach may be told. */
final class Texts {
    private static final String[] REACHES = {"open", "trees", "lock"};
    private static final String[] KITES = {"plain", "paired", "slow", "sail", "torn"};

    private Texts() {
    }

    static String line(Random random) {
        switch (random.nextInt(16)) {
            case 0: return "still " + random.nextInt(10);
            case 1: return "sold " + random.nextInt(4);
            case 2: return random.nextInt(4) == 0 ? "dry" : reach(random);
            case 3: case 4: case 5: return reach(random);
            case 6: case 7: case 8: return barge(random, random.nextInt(4));
            default: return wind(random, random.nextInt(6));
        }
    }

    /** Ways are mostly near one another, so that there is wind for most reaches. */
    private static int way(Random random) {
        return random.nextInt(5) == 0 ? random.nextInt(8) : random.nextInt(4);
    }

    static String reach(Random random) {
        return REACHES[random.nextInt(3)] + " " + way(random) + " " + (1 + random.nextInt(20));
    }

    static String barge(Random random, int barge) {
        int weight = 1 + random.nextInt(random.nextInt(4) == 0 ? 60 : 9);
        return "barge " + barge + " " + weight + " " + (1 + random.nextInt(5)) + " " + KITES[random.nextInt(5)] + " "
                + random.nextInt(100);
    }

    static String wind(Random random, int layer) {
        int from = random.nextInt(3) == 0 ? random.nextInt(24) : 0;
        int to = from + random.nextInt(24 - from);
        return "wind " + layer + " " + from + " " + (random.nextInt(2) == 0 ? 23 : to) + " " + way(random) + " "
                + random.nextInt(10);
    }

    /** An object with some reaches, winds in most layers, and all barges told. */
    static KiteBarges river(Random random, int reaches) {
        KiteBarges x = new KiteBarges();
        for (int i = 0; i < reaches; i++) {
            Due.tell(x, reach(random));
        }
        for (int layer = 0; layer < 6; layer++) {
            for (int i = random.nextInt(3); i >= 0; i--) {
                Due.tell(x, wind(random, layer));
            }
        }
        for (int barge = 0; barge < 4; barge++) {
            Due.tell(x, barge(random, barge));
        }
        Due.tell(x, "still " + random.nextInt(10));
        return x;
    }
}
