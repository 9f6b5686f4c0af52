import java.util.stream.IntStream;

/** The numbers round the edges of a range. */
final class Edges {
    private Edges() {
    }

    static int[] inside(int least, int greatest) {
        return IntStream.rangeClosed(least, greatest).toArray();
    }

    /** Just below and just above the range, and the least and the greatest int. */
    static int[] outside(int least, int greatest) {
        return new int[] {least - 1, greatest + 1, Integer.MIN_VALUE, Integer.MAX_VALUE};
    }

    static int[] and(int[] numbers, int... others) {
        return IntStream.concat(IntStream.of(numbers), IntStream.of(others)).toArray();
    }

    static int[] without(int[] numbers, int other) {
        return IntStream.of(numbers).filter(number -> number != other).toArray();
    }
}
