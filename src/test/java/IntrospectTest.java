/** Promise 12: introspect. */
public final class IntrospectTest {
    public static void main(String[] args) {
        Expect expect = new Expect();
        GrantDesk desk = Scenes.served();
        expect.equal("its scopes", desk.introspect(1, 1, 0), 4);
        expect.equal("none of another resource", desk.introspect(1, 1, 2), 0);
        expect.equal("none of another owner's", desk.introspect(2, 1, 1), 0);
        for (int token : new int[] {0, -1, 2, 60, 61, Integer.MIN_VALUE, Integer.MAX_VALUE}) {
            expect.equal("no token " + token, desk.introspect(1, token, 0), 0);
        }
        desk.rescope(1, 0, 3);
        expect.equal("only what the resource has", desk.introspect(1, 1, 0), 0);
        desk.rescope(1, 0, 12);
        expect.equal("only what the token has", desk.introspect(1, 1, 0), 4);
        desk.tick(29);
        expect.equal("just before its end", desk.introspect(1, 1, 0), 4);
        desk.tick(1);
        expect.equal("at its end", desk.introspect(1, 1, 0), 0);
        dropped(expect);
        wrong(expect);
        expect.end();
    }

    private static void dropped(Expect expect) {
        GrantDesk desk = Scenes.served();
        desk.drop(0, 1);
        expect.equal("dropped", desk.introspect(1, 1, 0), 0);
    }

    private static void wrong(Expect expect) {
        for (int r : new int[] {-1, 1, 3, 4, 12, Integer.MIN_VALUE, Integer.MAX_VALUE}) {
            for (int token : new int[] {1, 9}) {
                expect.refusedWhole("resource " + r, Expect.NO_SUCH, Scenes::served, d -> d.introspect(1, token, r));
            }
        }
        for (int key : new int[] {0, -1, 3, 4}) {
            expect.refusedWhole("key " + key, Expect.NO_SUCH, Scenes::served, d -> d.introspect(key, 1, 0));
        }
        expect.refusedWhole("another owner's key", Expect.NO_SUCH, Scenes::served, d -> d.introspect(2, 1, 0));
    }
}
