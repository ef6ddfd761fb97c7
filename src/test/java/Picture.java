import java.util.function.Supplier;

/**
 * All that can be seen of an object. Each part of a picture is taken of an object made anew, for a
 * part also changes it (so that what is kept is seen, and the text), and makes fewer than 450 calls.
 */
final class Picture {
    private static final int PARTS = 7;

    private Picture() {
    }

    static String of(Supplier<KiteBarges> made) {
        StringBuilder text = new StringBuilder();
        for (int part = 0; part < PARTS; part++) {
            take(made.get(), part, text.append("\npart ").append(part).append(':'));
        }
        return text.toString();
    }

    private static void take(KiteBarges x, int part, StringBuilder text) {
        switch (part) {
            case 0:
                told(x, text);
                text.append(" fault ").append(x.fault()).append(" river ").append(x.river());
                told(x, text);
                break;
            case 1:
                winds(x, text);
                break;
            case 2:
                plans(x, text);
                break;
            case 3:
                odds(x, text);
                break;
            case 4:
                hours(x, text);
                break;
            default:
                text.append(" back ").append(x.back(part - 5));
                hours(x, text);
                break;
        }
    }

    private static void told(KiteBarges x, StringBuilder text) {
        for (int what = 0; what < 6; what++) {
            text.append(" count ").append(x.count(what));
        }
        for (int reach = 0; reach < 8; reach++) {
            for (int what = 0; what < 3; what++) {
                text.append(' ').append(x.reach(reach, what));
            }
        }
        for (int barge = 0; barge < 4; barge++) {
            for (int what = 0; what < 4; what++) {
                text.append(' ').append(x.barge(barge, what));
            }
            text.append(" as ").append(x.as(barge, 0)).append(" yards ").append(x.yards(barge, 0, 1, 2));
            places(x, barge, text);
        }
    }

    private static void places(KiteBarges x, int barge, StringBuilder text) {
        text.append(" at");
        for (int what = 0; what < 5; what++) {
            text.append(' ').append(x.at(barge, what));
        }
        text.append(" knots ").append(x.knots(barge));
    }

    private static void winds(KiteBarges x, StringBuilder text) {
        for (int layer = 0; layer < 6; layer++) {
            for (int hour = 0; hour < 24; hour++) {
                text.append(' ').append(x.wind(layer, hour, 0)).append(',').append(x.wind(layer, hour, 1));
            }
        }
    }

    private static void plans(KiteBarges x, StringBuilder text) {
        for (int barge = 0; barge < 4; barge++) {
            text.append(" soonest");
            for (int i = -2; i < 12; i++) {
                text.append(' ').append(x.soonest(barge, 0, i)).append(' ').append(x.soonest(barge, 5, i));
            }
            for (int other = 0; other < 4; other++) {
                text.append(" clear");
                for (int i = -2; i < 8; i++) {
                    text.append(' ').append(x.clear(barge, other, i));
                }
            }
        }
    }

    private static void odds(KiteBarges x, StringBuilder text) {
        for (int barge = 0; barge < 4; barge++) {
            for (int n = 0; n <= 8; n += 4) {
                text.append(" odds ").append(x.odds(barge, n, 3, 0)).append(' ').append(x.odds(barge, n, 3, 1));
                text.append(" sight ").append(x.sight(barge, n, 3, 0)).append(' ').append(x.sight(barge, n, 3, 1));
                text.append(" blind ").append(x.blind(barge, n, 3, 0)).append(" worth ").append(x.worth(barge, n, 3, 0));
            }
            text.append(" books ").append(x.books(barge, 0)).append(' ').append(x.books(barge, 1));
            for (int reach = 0; reach < 3; reach++) {
                for (int layer = 0; layer < 6; layer++) {
                    text.append(' ').append(x.first(barge, reach, layer));
                }
            }
        }
        for (int layer = 0; layer < 6; layer++) {
            text.append(" found ").append(x.found(0, layer)).append(' ').append(x.found(1, layer));
        }
    }

    /** Where the barges are, how far their cords reach, and where some hours bring them. */
    private static void hours(KiteBarges x, StringBuilder text) {
        for (int time = 0; time < 3; time++) {
            text.append(" hours ").append(x.count(3));
            for (int barge = 0; barge < 4; barge++) {
                places(x, barge, text);
                for (int layer = 0; layer < 6; layer++) {
                    text.append(" cord ").append(x.cord(barge, layer));
                }
            }
            text.append(" go ").append(x.go(1 + time));
        }
    }
}
