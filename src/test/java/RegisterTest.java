/** Promise 4: register. */
public final class RegisterTest {
    public static void main(String[] args) {
        Expect expect = new Expect();
        GrantDesk desk = new GrantDesk();
        desk.key(2);
        desk.key(0);
        expect.equal("the least scopes", desk.register(1, 1), 0);
        expect.equal("the most", desk.register(2, 15), 1);
        expect.equal("owner of 0", desk.resource(0, 0), 2);
        expect.equal("owner of 1", desk.resource(1, 0), 0);
        expect.equal("scopes of 0", desk.resource(0, 1), 1);
        expect.equal("scopes of 1", desk.resource(1, 1), 15);
        expect.equal("rules of 0", desk.resource(0, 2), 0);
        desk.remove(2, 1);
        expect.equal("numbers are not given again", desk.register(2, 4), 2);
        wrong(expect);
        full(expect);
        expect.end();
    }

    private static void wrong(Expect expect) {
        for (int scopes : new int[] {0, 16, -1, 17, Integer.MIN_VALUE, Integer.MAX_VALUE}) {
            expect.refusedWhole("scopes " + scopes, Expect.ARGUMENT, Scenes::served, d -> d.register(1, scopes));
            expect.refusedWhole("keyless first", Expect.NO_SUCH, Scenes::served, d -> d.register(3, scopes));
        }
    }

    private static GrantDesk twelve() {
        GrantDesk desk = new GrantDesk();
        desk.key(0);
        for (int r = 0; r < 12; r++) {
            desk.register(1, 1 + r);
        }
        desk.remove(1, 4);
        return desk;
    }

    private static void full(Expect expect) {
        GrantDesk desk = new GrantDesk();
        desk.key(1);
        for (int r = 0; r < 12; r++) {
            expect.equal("resource " + r, desk.register(1, 3), r);
        }
        expect.equal("the twelfth can be asked for", desk.ask(1, 11, 3, 0, 1), 1);
        expect.refusedWhole("the 13th", Expect.STATE, RegisterTest::twelve, d -> d.register(1, 1));
        expect.refusedWhole("scopes first", Expect.ARGUMENT, RegisterTest::twelve, d -> d.register(1, 0));
        expect.refusedWhole("keyless first", Expect.NO_SUCH, RegisterTest::twelve, d -> d.register(2, 1));
    }
}
