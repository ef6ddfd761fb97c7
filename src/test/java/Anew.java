/** An object told by texts, and made anew ahead of its 513th call: what later calls answer is free. */
final class Anew {
    private static final int MOST_CALLS = 512;

    private final String[] texts;
    private KiteBarges made = null;
    private int calls = 0;

    Anew(String[] texts) {
        this.texts = texts;
    }

    /** The object, for one call. */
    KiteBarges x() {
        if (made == null || calls == MOST_CALLS) {
            made = Due.told(texts);
            calls = 0;
            for (String text : texts) {
                calls += (text.length() + 7) / 8 + 1;
            }
        }
        calls++;
        return made;
    }
}
