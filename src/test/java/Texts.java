/** Writes predicates as texts; a predicate is the row of its bytes until it becomes a long. */
final class Texts {
    static final long EVER = 7;
    static final long NO_TEXT = 0;

    private Texts() {
    }

    static int[] all(int[] a, int[] b) {
        return joined(joined(new int[] {1}, a), b);
    }

    static int[] any(int[] a, int[] b) {
        return joined(joined(new int[] {2}, a), b);
    }

    static int[] not(int[] a) {
        return joined(new int[] {3}, a);
    }

    static int[] is(int kind, int value) {
        return new int[] {4 + 8 * kind, value};
    }

    static int[] below(int kind, int value) {
        return new int[] {5 + 8 * kind, value};
    }

    static int[] since(int clock) {
        return new int[] {6, clock};
    }

    static int[] ever() {
        return new int[] {7};
    }

    static long text(int... bytes) {
        long text = 0;
        for (int i = bytes.length - 1; i >= 0; i--) {
            text = text * 256 + bytes[i];
        }
        return text;
    }

    static int seal(int kind, int value) {
        return ((kind + 3) * 1009 + value * 101) % 9973;
    }

    private static int[] joined(int[] a, int[] b) {
        int[] both = java.util.Arrays.copyOf(a, a.length + b.length);
        System.arraycopy(b, 0, both, a.length, b.length);
        return both;
    }
}
