/** Promise 9: ask. */
public final class AskTest {
    private static final int[] NO_RESOURCES = {1, 3, 4, 12, -2, Integer.MIN_VALUE, Integer.MAX_VALUE};
    private static final int[] NO_SCOPES = {0, 16, -1, Integer.MIN_VALUE, Integer.MAX_VALUE};

    public static void main(String[] args) {
        Expect expect = new Expect();
        ordinary(expect);
        permissions(expect);
        wrongResources(expect);
        wrongScopes(expect);
        full(expect);
        expect.end();
    }

    private static void ordinary(Expect expect) {
        GrantDesk desk = Scenes.owners();
        desk.tick(7);
        expect.equal("the first", desk.ask(1, 0, 3, -1, 0), 1);
        expect.equal("the second, for two", desk.ask(1, 0, 7, 2, 15), 2);
        expect.equal("of another owner", desk.ask(2, 1, 2, -1, 0), 3);
        for (int ticket = 1; ticket <= 3; ticket++) {
            expect.equal("live", desk.ticket(ticket, 0), 1);
            expect.equal("bound to none", desk.ticket(ticket, 1), 0);
            expect.equal("without claims", desk.ticket(ticket, 2), 0);
            expect.equal("its end", desk.ticket(ticket, 3), 17);
        }
        expect.equal("more is not looked at without other", desk.ask(1, 0, 1, -1, 99), 4);
        expect.equal("nor when it is negative", desk.ask(1, 0, 1, -1, -1), 5);
    }

    private static void permissions(Expect expect) {
        GrantDesk desk = Scenes.owners();
        desk.rule(1, 0, 15, 7);
        desk.rule(1, 2, 15, 7);
        expect.equal("for two", desk.redeem(0, desk.ask(1, 2, 9, 0, 3), 0, 0), 1);
        expect.equal("the first's scopes", desk.introspect(1, 1, 2), 9);
        expect.equal("the other's scopes", desk.introspect(1, 1, 0), 3);
        expect.equal("for one", desk.redeem(0, desk.ask(1, 2, 4, -1, 7), 0, 0), 2);
        expect.equal("its scopes", desk.introspect(1, 2, 2), 4);
        expect.equal("nothing else", desk.introspect(1, 2, 0), 0);
    }

    private static void wrongResources(Expect expect) {
        expect.refusedWhole("r is -1", Expect.NO_SUCH, Scenes::served, d -> d.ask(1, -1, 1, -1, 0));
        for (int r : NO_RESOURCES) {
            expect.refusedWhole("r " + r, Expect.NO_SUCH, Scenes::served, d -> d.ask(1, r, 1, -1, 0));
            expect.refusedWhole("r with wrong scopes", Expect.NO_SUCH, Scenes::served, d -> d.ask(1, r, 0, 0, 0));
            expect.refusedWhole("r twice", Expect.NO_SUCH, Scenes::served, d -> d.ask(1, r, 1, r, 1));
            expect.refusedWhole("other " + r, Expect.NO_SUCH, Scenes::served, d -> d.ask(1, 0, 1, r, 1));
            expect.refusedWhole("other with wrong scopes", Expect.NO_SUCH, Scenes::served, d -> d.ask(1, 0, 0, r, 0));
        }
        expect.refusedWhole("other is r", Expect.ARGUMENT, Scenes::served, d -> d.ask(1, 0, 1, 0, 2));
        expect.refusedWhole("keyless", Expect.NO_SUCH, Scenes::served, d -> d.ask(3, 0, 0, 0, 0));
    }

    private static void wrongScopes(Expect expect) {
        for (int scopes : NO_SCOPES) {
            expect.refusedWhole("scopes " + scopes, Expect.ARGUMENT, Scenes::served, d -> d.ask(1, 2, scopes, -1, 0));
            expect.refusedWhole("more " + scopes, Expect.ARGUMENT, Scenes::served, d -> d.ask(1, 0, 1, 2, scopes));
        }
        expect.refusedWhole("not its scopes", Expect.ARGUMENT, Scenes::served, d -> d.ask(1, 0, 8, -1, 0));
        expect.refusedWhole("not all its scopes", Expect.ARGUMENT, Scenes::served, d -> d.ask(1, 0, 9, -1, 0));
        expect.refusedWhole("not the other's", Expect.ARGUMENT, Scenes::served, d -> d.ask(1, 2, 8, 0, 8));
        expect.refusedWhole("not all the other's", Expect.ARGUMENT, Scenes::served, d -> d.ask(1, 2, 8, 0, 15));
    }

    private static void full(Expect expect) {
        GrantDesk desk = Scenes.ruled(Texts.ever());
        for (int ticket = 2; ticket <= 60; ticket++) {
            expect.equal("ticket " + ticket, desk.ask(1, 0, 1, -1, 0), ticket);
        }
        expect.refused("the 61st", Expect.STATE, () -> desk.ask(1, 0, 1, -1, 0));
        desk.redeem(0, 1, 0, 0);
        desk.tick(100);
        expect.refused("the 61st, none being live", Expect.STATE, () -> desk.ask(1, 0, 1, -1, 0));
        expect.refused("scopes first", Expect.ARGUMENT, () -> desk.ask(1, 0, 0, -1, 0));
        expect.refused("twice first", Expect.ARGUMENT, () -> desk.ask(1, 0, 1, 0, 1));
        expect.refused("resource first", Expect.NO_SUCH, () -> desk.ask(1, 1, 1, -1, 0));
        expect.equal("there is no 61st", desk.ticket(61, 0), -1);
    }
}
