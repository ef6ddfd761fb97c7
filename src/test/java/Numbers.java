import java.util.Arrays;
import java.util.stream.IntStream;

/** Arguments for tests: what is outside a bound, and what is inside it. */
final class Numbers {
    private Numbers() {
    }

    /**
     * Numbers outside least .. most: those beside both ends, those as small and as large as an int
     * can be, and those that a byte, a short or a product would wrap around to a number inside.
     */
    static int[] outside(int least, int most) {
        int[] all = {least - 1, least - 2, least - 100, most + 1, most + 2, most + 100,
            least + 256, most - 256, least + 65536, most - 65536, 1 << 28, 1 << 29, 1 << 30, -1 << 30,
            Integer.MIN_VALUE, Integer.MIN_VALUE + 1, Integer.MIN_VALUE + least, Integer.MIN_VALUE + most,
            Integer.MAX_VALUE - 1, Integer.MAX_VALUE};
        return Arrays.stream(all).filter(n -> n < least || n > most).distinct().toArray();
    }

    static int[] inside(int least, int most) {
        return IntStream.rangeClosed(least, most).toArray();
    }
}
