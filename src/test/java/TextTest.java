/** Promise 7, its texts: which longs are a predicate's text and which are none. */
public final class TextTest {
    private static final Expect EXPECT = new Expect();

    public static void main(String[] args) {
        leaves();
        branches();
        lengths();
        strays();
        EXPECT.end();
    }

    private static boolean isText(long text) {
        GrantDesk desk = new GrantDesk();
        desk.key(0);
        desk.register(1, 1);
        try {
            desk.rule(1, 0, 1, text);
            return true;
        } catch (IllegalArgumentException none) {
            return false;
        }
    }

    private static void due(boolean due, int... bytes) {
        EXPECT.equal(java.util.Arrays.toString(bytes), isText(Texts.text(bytes)), due);
    }

    private static void leaves() {
        for (int kind = 0; kind < 32; kind++) {
            due(kind < 12, Texts.is(kind, 7));
            due(kind < 12, Texts.below(kind, 7));
            due(kind == 0, 6 + 8 * kind, 7);
            due(kind == 0, 7 + 8 * kind);
            due(false, 8 * kind);
            due(false, 8 * kind, 7);
        }
        for (int value = 0; value < 256; value++) {
            due(value < 100, Texts.is(0, value));
            due(value < 100, Texts.below(11, value));
            due(value < 100, Texts.since(value));
        }
    }

    private static void branches() {
        for (int rest = 0; rest < 32; rest++) {
            due(rest == 0, 1 + 8 * rest, 7, 7);
            due(rest == 0, 2 + 8 * rest, 7, 7);
            due(rest == 0, 3 + 8 * rest, 7);
        }
        due(false, 1);
        due(false, 2);
        due(false, 3);
        due(false, 1, 7);
        due(false, 2, 7);
        due(false, 1, 0, 7);
        due(false, 2, 7, 8);
        due(false, 3, 0);
        due(true, Texts.all(Texts.is(0, 0), Texts.since(0)));
        due(true, Texts.any(Texts.not(Texts.below(3, 99)), Texts.all(Texts.ever(), Texts.ever())));
        due(false, Texts.any(Texts.not(Texts.below(12, 99)), Texts.ever()));
        due(false, Texts.all(Texts.ever(), Texts.is(3, 100)));
    }

    private static void lengths() {
        due(true, 3, 3, 3, 3, 3, 3, 3, 7);
        due(false, 3, 3, 3, 3, 3, 3, 3, 3);
        due(true, 3, 3, 3, 3, 3, 3, 4, 99);
        due(false, 3, 3, 3, 3, 3, 3, 3, 4);
        due(false, 3, 3, 3, 3, 3, 3, 3, 6);
        due(true, 1, 1, 1, 7, 7, 7, 7);
        due(false, 1, 1, 1, 1, 7, 7, 7, 7);
        due(true, 1, 1, 4, 5, 5, 6, 6, 7);
        due(false, 1, 1, 4, 5, 5, 6, 3, 6);
        due(true, 2, 7, 2, 7, 3, 7);
        due(true, 3, 2, 7, 2, 7, 2, 7, 7);
        due(false, 2, 7, 2, 7, 2, 7, 2, 7);
    }

    private static void strays() {
        due(false, 7, 1);
        due(false, 7, 7);
        due(false, 7, 0, 0, 0, 0, 0, 0, 1);
        due(false, 7, 0, 0, 0, 0, 0, 0, 128);
        due(false, 4, 1, 1);
        due(false, 6, 1, 0, 1);
        due(false, 1, 7, 7, 7);
        due(false, 3, 3, 3, 3, 3, 3, 7, 1);
        due(false, 0, 7);
        EXPECT.equal("0", isText(0L), false);
        EXPECT.equal("-1", isText(-1L), false);
        EXPECT.equal("the least long", isText(Long.MIN_VALUE), false);
        EXPECT.equal("the greatest long", isText(Long.MAX_VALUE), false);
    }
}
