/** What the tests share: counting answers that are not as due, and writing texts. */
final class Due {
    private int asked = 0;
    private int wrong = 0;

    void is(String what, long got, long want) {
        asked++;
        if (got != want) {
            wrong++;
            System.out.println(what + " answered " + got + ", due is " + want);
        }
    }

    void holds(String what, boolean holds) {
        is(what, holds ? 1 : 0, 1);
    }

    /** How many answers were asked for as yet. */
    int asked() {
        return asked;
    }

    /** Ends the test: with exit code 1, if an answer was not as due. */
    void end() {
        System.out.println((asked - wrong) + " of " + asked + " answers are as due");
        if (wrong != 0 || asked == 0) {
            System.exit(1);
        }
    }

    /** Writes a text by eight bytes at a time, and answers what the last call did. */
    static int write(KiteBarges x, String text) {
        int answer = 0;
        for (int from = 0; from < text.length(); from += 8) {
            int n = Math.min(8, text.length() - from);
            long bytes = 0;
            for (int i = n - 1; i >= 0; i--) {
                bytes = bytes << 8 | text.charAt(from + i) & 255;
            }
            answer = x.write(bytes, n);
        }
        return answer;
    }

    /** The fault of a text, on an object as it is; the text is erased behind that. */
    static int fault(KiteBarges x, String text) {
        write(x, text);
        int fault = x.fault();
        x.erase();
        return fault;
    }

    /** Tells texts, and answers what the last one's river did. */
    static int tell(KiteBarges x, String... texts) {
        int answer = 0;
        for (String text : texts) {
            write(x, text);
            answer = x.river();
        }
        return answer;
    }

    static KiteBarges told(String... texts) {
        KiteBarges x = new KiteBarges();
        tell(x, texts);
        return x;
    }
}
