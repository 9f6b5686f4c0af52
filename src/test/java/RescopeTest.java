/** Promise 5: rescope. */
public final class RescopeTest {
    public static void main(String[] args) {
        Expect expect = new Expect();
        ordinary(expect);
        restStays(expect);
        wrong(expect);
        expect.end();
    }

    private static void ordinary(Expect expect) {
        GrantDesk desk = Scenes.owners();
        expect.equal("what it had", desk.rescope(1, 0, 8), 7);
        expect.equal("has now", desk.resource(0, 1), 8);
        expect.equal("the others stay", desk.resource(2, 1), 15);
        expect.equal("what it had then", desk.rescope(1, 0, 15), 8);
        expect.refused("ask goes by the new ones", Expect.ARGUMENT, () -> {
            desk.rescope(1, 0, 1);
            desk.ask(1, 0, 2, -1, 0);
        });
    }

    private static void restStays(Expect expect) {
        GrantDesk desk = Scenes.served();
        desk.rescope(1, 0, 8);
        expect.equal("rules stay", desk.resource(0, 2), 2);
        expect.equal("the token's scopes are hidden", desk.introspect(1, 1, 0), 0);
        expect.equal("but still counted", desk.token(1, 3), 1);
        int ticket = Scenes.pushed(desk, 0, 1, 2, 40);
        expect.equal("the ticket grants what it had", desk.redeem(0, ticket, 0, 0), 2);
        desk.rescope(1, 0, 15);
        expect.equal("the old token's scopes are seen again", desk.introspect(1, 1, 0), 4);
        expect.equal("the new token has the ticket's scope", desk.introspect(1, 2, 0), 1);
    }

    private static void wrong(Expect expect) {
        for (int scopes : new int[] {0, 16, -1, Integer.MIN_VALUE, Integer.MAX_VALUE}) {
            expect.refusedWhole("scopes " + scopes, Expect.ARGUMENT, Scenes::served, d -> d.rescope(1, 0, scopes));
            expect.refusedWhole("keyless first", Expect.NO_SUCH, Scenes::served, d -> d.rescope(3, 0, scopes));
            expect.refusedWhole("another's first", Expect.NO_SUCH, Scenes::served, d -> d.rescope(1, 1, scopes));
        }
        for (int r : new int[] {-1, 1, 3, 4, 12, Integer.MIN_VALUE, Integer.MAX_VALUE}) {
            expect.refusedWhole("resource " + r, Expect.NO_SUCH, Scenes::served, d -> d.rescope(1, r, 1));
        }
    }
}
