/** Promise 3: revoke, and what KEYLESS means for every call that takes a key. */
public final class RevokeTest {
    public static void main(String[] args) {
        Expect expect = new Expect();
        GrantDesk desk = Scenes.owners();
        for (int wrong : new int[] {0, -1, 4, 12, 13, Integer.MIN_VALUE, Integer.MAX_VALUE}) {
            expect.equal("revoke(" + wrong + ")", desk.revoke(wrong), false);
        }
        expect.equal("revoked before", desk.revoke(3), false);
        expect.equal("revoke(1)", desk.revoke(1), true);
        expect.equal("revoke(1) again", desk.revoke(1), false);
        expect.equal("the resource stays", desk.resource(0, 0), 0);
        expect.equal("another key speaks on", desk.register(2, 1), 4);
        expect.equal("a new key of the owner", desk.key(0), 4);
        expect.equal("takes over its resources", desk.rescope(4, 0, 1), 7);
        keyless(expect);
        expect.end();
    }

    private static void keyless(Expect expect) {
        for (int key : new int[] {3, 0, -1, 4, Integer.MAX_VALUE}) {
            String by = " by " + key;
            expect.refusedWhole("register" + by, Expect.NO_SUCH, Scenes::served, d -> d.register(key, 1));
            expect.refusedWhole("rescope" + by, Expect.NO_SUCH, Scenes::served, d -> d.rescope(key, 0, 1));
            expect.refusedWhole("remove" + by, Expect.NO_SUCH, Scenes::served, d -> d.remove(key, 0));
            expect.refusedWhole("rule" + by, Expect.NO_SUCH, Scenes::served, d -> d.rule(key, 0, 1, 7));
            expect.refusedWhole("clear" + by, Expect.NO_SUCH, Scenes::served, d -> d.clear(key, 0));
            expect.refusedWhole("ask" + by, Expect.NO_SUCH, Scenes::served, d -> d.ask(key, 0, 1, -1, 0));
            expect.refusedWhole("introspect" + by, Expect.NO_SUCH, Scenes::served, d -> d.introspect(key, 1, 0));
        }
    }
}
