import java.util.Arrays;
import java.util.stream.IntStream;

/** Numbers at and beyond the ends of ranges. */
final class Ints {
    private Ints() {
    }

    /**
     * Numbers outside a range: beside its ends, at the ends of int, and such as would fall into
     * the range if they were cut to fewer bits, multiplied by 16 or taken without their sign.
     */
    static int[] outside(int least, int most) {
        int[] all = {
            least - 1, most + 1, Integer.MIN_VALUE, Integer.MIN_VALUE + 1, Integer.MAX_VALUE,
            Integer.MAX_VALUE - 1, Integer.MIN_VALUE + most, least + (1 << 8), most + (1 << 16),
            1 << 28, -(1 << 28), -most,
        };
        return Arrays.stream(all).filter(n -> n < least || n > most).distinct().toArray();
    }

    static int[] range(int least, int most) {
        return IntStream.rangeClosed(least, most).toArray();
    }
}
