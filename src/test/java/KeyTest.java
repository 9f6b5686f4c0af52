@Section("Promise 2: key")
public final class KeyTest {
    private static final String ARGUMENT = "IllegalArgumentException: no such owner.";
    private static final String STATE = "IllegalStateException: there were 12 keys.";

    public static void main(String[] args) {
        Tests.run(KeyTest.class);
    }

    private static GrantDesk withKeys(int count) {
        GrantDesk desk = new GrantDesk();
        for (int key = 1; key <= count; key++) {
            desk.key(key % 3);
        }
        return desk;
    }

    @Sentence("A new key of an owner: its number.")
    static void numbersRiseByOne(Expect expect) {
        GrantDesk desk = new GrantDesk();
        int[] owners = {0, 1, 2, 0, 0};
        for (int i = 0; i < owners.length; i++) {
            expect.equal("key of " + owners[i], desk.key(owners[i]), i + 1);
        }
        desk.revoke(5);
        expect.equal("behind a revoked one", desk.key(2), 6);
    }

    @Sentence("A new key of an owner: its number.")
    static void speaksForItsOwner(Expect expect) {
        GrantDesk desk = new GrantDesk();
        for (int owner = 0; owner <= 2; owner++) {
            int r = desk.register(desk.key(owner), 1);
            expect.equal("the owner", desk.resource(r, 0), owner);
        }
        int second = desk.key(1);
        expect.equal("a second key of an owner", desk.remove(second, 1), 0);
        expect.refused("not of another owner", Expect.NO_SUCH, () -> desk.remove(second, 0));
    }

    @Sentence(ARGUMENT)
    static void noSuchOwner(Expect expect) {
        expect.refusedFor(Edges.outside(0, 2), "owner", Expect.ARGUMENT, GrantDesk::new, GrantDesk::key);
        expect.refusedFor(Edges.outside(0, 2), "owner", Expect.ARGUMENT, Scenes::served, GrantDesk::key);
    }

    @Sentence(STATE)
    static void thereIsATwelfth(Expect expect) {
        GrantDesk desk = withKeys(11);
        expect.equal("the twelfth", desk.key(1), 12);
        expect.equal("speaks", desk.register(12, 1), 0);
        expect.equal("for its owner", desk.resource(0, 0), 1);
    }

    @Sentence(STATE)
    static void thereIsNoThirteenth(Expect expect) {
        expect.refusedFor(Edges.inside(0, 2), "owner", Expect.STATE, () -> withKeys(12), GrantDesk::key);
        GrantDesk desk = withKeys(12);
        expect.refused("the 13th", Expect.STATE, () -> desk.key(0));
        expect.equal("it is none", desk.revoke(13), false);
    }

    @Sentence(STATE)
    static void revokedOnesWereThere(Expect expect) {
        GrantDesk desk = withKeys(12);
        for (int key = 1; key <= 12; key++) {
            expect.equal("revoke " + key, desk.revoke(key), true);
            expect.refused("a 13th", Expect.STATE, () -> desk.key(0));
        }
    }

    @Sentence(ARGUMENT + " " + STATE)
    static void theFirstThatIsDue(Expect expect) {
        new Mixture(expect, (desk, a) -> desk.key(a[0]), 0)
                .lists(Expect.ARGUMENT).wrong(0, -1, 3)
                .lists(Expect.STATE)
                .in(GrantDesk::new)
                .inRefusing(() -> withKeys(12), Expect.STATE);
    }
}
