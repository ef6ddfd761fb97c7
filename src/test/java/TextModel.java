import java.util.ArrayList;
import java.util.List;
import java.util.Map;
import java.util.regex.Matcher;
import java.util.regex.Pattern;

/** The rules of THE TEXT once more, by tables: its tokens, its fault, what its lines tell. */
final class TextModel {
    private static final Pattern TOKEN = Pattern.compile("[a-z]+|[0-9]+|[^ ]");
    private static final List<String> REACHES = List.of("open", "trees", "lock");
    private static final List<String> KITES = List.of("plain", "paired", "slow", "sail", "torn");
    private static final Map<String, String[]> FORMS = Map.of(
            "open", new String[] {"way", "long"},
            "trees", new String[] {"way", "long"},
            "lock", new String[] {"way", "long"},
            "dry", new String[] {},
            "wind", new String[] {"layer", "hour", "till", "way", "strength"},
            "barge", new String[] {"barge", "weight", "cord", "kite", "freight"},
            "sold", new String[] {"barge"},
            "still", new String[] {"strength"});
    private static final Map<String, int[]> BOUNDS = Map.of(
            "way", new int[] {0, 7},
            "long", new int[] {1, 20},
            "layer", new int[] {0, 5},
            "hour", new int[] {0, 23},
            "till", new int[] {0, 23},
            "strength", new int[] {0, 9},
            "barge", new int[] {0, 3},
            "weight", new int[] {1, 60},
            "cord", new int[] {1, 5},
            "freight", new int[] {0, 99});

    final List<int[]> reaches = new ArrayList<>();
    final int[][][] wind = new int[6][24][2];
    final int[][] barges = new int[4][];
    int still = 2;

    private record Token(String text, int place) {
    }

    private static List<Token> tokens(String text) {
        List<Token> tokens = new ArrayList<>();
        Matcher matcher = TOKEN.matcher(text);
        while (matcher.find()) {
            tokens.add(new Token(matcher.group(), matcher.start()));
        }
        return tokens;
    }

    /** The place of the fault, or -1. */
    int faultOf(String text) {
        List<Token> tokens = tokens(text);
        int told = reaches.size();
        int next = 0;
        for (int line = 1; next < tokens.size(); line++) {
            Token word = tokens.get(next++);
            told = word.text.equals("dry") ? 0 : told + (REACHES.contains(word.text) ? 1 : 0);
            if (!FORMS.containsKey(word.text) || told > 8) {
                return word.place;
            }
            int ahead = 0;
            for (String slot : FORMS.get(word.text)) {
                if (next == tokens.size()) {
                    return text.length();
                }
                Token token = tokens.get(next++);
                if (!fits(slot, token.text, ahead)) {
                    return token.place;
                }
                ahead = slot.equals("hour") ? Integer.parseInt(token.text) : 0;
            }
            if (next == tokens.size()) {
                return -1;
            }
            Token between = tokens.get(next++);
            if (!between.text.equals(";") || line == 8) {
                return between.place;
            }
        }
        return text.length();
    }

    /** If a token can stand for a slot; ahead is the hour that "till" may not be below. */
    private static boolean fits(String slot, String token, int ahead) {
        if (slot.equals("kite")) {
            return KITES.contains(token);
        }
        if (!token.matches("[0-9]{1,2}")) {
            return false;
        }
        int number = Integer.parseInt(token);
        int[] bounds = BOUNDS.get(slot);
        return number >= bounds[0] && number <= bounds[1] && number >= ahead;
    }

    /** Does a text without a fault: how many lines it had. */
    int done(String text) {
        List<String> line = new ArrayList<>();
        int lines = 0;
        for (Token token : tokens(text + ";")) {
            if (token.text.equals(";")) {
                doLine(line);
                line.clear();
                lines++;
            } else {
                line.add(token.text);
            }
        }
        return lines;
    }

    private void doLine(List<String> line) {
        String word = line.get(0);
        int[] n = line.stream().skip(1).mapToInt(TextModel::numberOf).toArray();
        switch (word) {
            case "dry" -> reaches.clear();
            case "still" -> still = n[0];
            case "sold" -> barges[n[0]] = null;
            case "barge" -> barges[n[0]] = new int[] {n[1], n[3] == 2 ? 1 : n[2], n[3], n[4]};
            case "wind" -> {
                for (int hour = n[1]; hour <= n[2]; hour++) {
                    wind[n[0]][hour] = new int[] {n[3], n[4]};
                }
            }
            default -> reaches.add(new int[] {n[0], n[1], REACHES.indexOf(word)});
        }
    }

    private static int numberOf(String token) {
        return KITES.contains(token) ? KITES.indexOf(token) : Integer.parseInt(token);
    }

    int toldBits() {
        int bits = 0;
        for (int barge = 0; barge < 4; barge++) {
            bits |= barges[barge] == null ? 0 : 1 << barge;
        }
        return bits;
    }

    int wholeLength() {
        return reaches.stream().mapToInt(reach -> reach[1]).sum();
    }
}
