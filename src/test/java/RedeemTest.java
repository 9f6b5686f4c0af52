/** Promise 11: redeem. */
public final class RedeemTest {
    public static void main(String[] args) {
        Expect expect = new Expect();
        granted(expect);
        scopesGiven(expect);
        twoPermissions(expect);
        removedAndRescoped(expect);
        tokenGiven(expect);
        open(expect);
        openOnlyForTheAsked(expect);
        nothing(expect);
        wrongArguments(expect);
        notAccepted(expect);
        full(expect);
        expect.end();
    }

    private static void granted(Expect expect) {
        GrantDesk desk = Scenes.served();
        desk.tick(5);
        int ticket = Scenes.pushed(desk, 2, 1, 2, 40);
        expect.equal("the number", desk.redeem(2, ticket, 0, 0), 2);
        expect.equal("of those asked alone", desk.introspect(1, 2, 0), 1);
        expect.equal("the ticket is used", desk.ticket(ticket, 0), 2);
        expect.equal("good", desk.token(2, 0), 1);
        expect.equal("of the client", desk.token(2, 1), 2);
        expect.equal("its end", desk.token(2, 2), 35);
        expect.equal("one resource", desk.token(2, 3), 1);
        expect.refused("one-time", Expect.STATE, () -> desk.redeem(2, ticket, 0, 0));
        expect.equal("no ticket was made", desk.ticket(5, 0), -1);
        GrantDesk unbound = Scenes.ruled(Texts.ever());
        expect.equal("an unbound one", unbound.redeem(1, 1, 0, 0), 1);
        expect.equal("is bound", unbound.ticket(1, 1), 2);
        expect.equal("keeps its end", unbound.ticket(1, 3), 10);
    }

    private static void scopesGiven(Expect expect) {
        GrantDesk desk = Scenes.owners();
        desk.rule(1, 0, 15, 7);
        desk.rule(1, 2, 15, 7);
        expect.equal("more scopes", desk.redeem(0, desk.ask(1, 0, 1, -1, 0), 12, 0), 1);
        expect.equal("that the resource has", desk.introspect(1, 1, 0), 5);
        desk.rescope(1, 0, 15);
        expect.equal("and had then", desk.introspect(1, 1, 0), 5);
        expect.equal("none of a resource without permission", desk.introspect(1, 1, 2), 0);
        expect.equal("all scopes", desk.redeem(0, desk.ask(1, 2, 8, -1, 0), 15, 0), 2);
        expect.equal("are given", desk.introspect(1, 2, 2), 15);
        desk.clear(1, 0);
        desk.rule(1, 0, 2, 7);
        expect.equal("a rule for a scope given", desk.redeem(0, desk.ask(1, 0, 1, -1, 0), 2, 0), 3);
        expect.equal("grants that alone", desk.introspect(1, 3, 0), 2);
    }

    private static void twoPermissions(Expect expect) {
        GrantDesk desk = Scenes.owners();
        desk.rule(1, 0, 3, 7);
        desk.rule(1, 2, 8, Texts.text(Texts.is(1, 1)));
        expect.equal("one grants, one is open", desk.redeem(0, desk.ask(1, 0, 7, 2, 15), 0, 0), 1);
        expect.equal("scopes of the one", desk.introspect(1, 1, 0), 3);
        expect.equal("none of the open one", desk.introspect(1, 1, 2), 0);
        expect.equal("one resource", desk.token(1, 3), 1);
        int ticket = Scenes.pushed(desk, 0, desk.ask(1, 2, 9, 0, 4), 1, 1);
        expect.equal("both", desk.redeem(0, ticket, 2, 0), 2);
        expect.equal("the first", desk.introspect(1, 2, 2), 8);
        expect.equal("the other by a scope given", desk.introspect(1, 2, 0), 2);
        expect.equal("two resources", desk.token(2, 3), 2);
    }

    private static void removedAndRescoped(Expect expect) {
        GrantDesk desk = Scenes.owners();
        desk.rule(1, 0, 15, 7);
        desk.rule(1, 2, 15, 7);
        int two = desk.ask(1, 0, 7, 2, 15);
        int one = desk.ask(1, 0, 7, -1, 0);
        int lacking = desk.ask(1, 2, 8, -1, 0);
        desk.remove(1, 0);
        expect.equal("the one that is left", desk.redeem(0, two, 0, 0), 1);
        expect.equal("one resource", desk.token(1, 3), 1);
        expect.refused("none is left", Expect.UNSUPPORTED, () -> desk.redeem(0, one, 15, 0));
        desk.rescope(1, 2, 6);
        expect.equal("the ticket's own scopes stay", desk.redeem(0, lacking, 3, 0), 2);
        expect.equal("hidden now", desk.introspect(1, 2, 2), 2);
        desk.rescope(1, 2, 15);
        expect.equal("and there", desk.introspect(1, 2, 2), 10);
    }

    private static void tokenGiven(Expect expect) {
        GrantDesk desk = Scenes.owners();
        desk.rule(1, 0, 15, 7);
        desk.rule(1, 2, 15, 7);
        desk.rule(2, 1, 15, 7);
        desk.redeem(0, desk.ask(1, 0, 6, 2, 15), 0, 0);
        desk.tick(3);
        expect.equal("of another owner", desk.redeem(0, desk.ask(2, 1, 1, -1, 0), 0, 1), 2);
        expect.equal("granted", desk.introspect(2, 2, 1), 1);
        expect.equal("kept", desk.introspect(1, 2, 0), 6);
        expect.equal("kept, too", desk.introspect(1, 2, 2), 15);
        expect.equal("three resources", desk.token(2, 3), 3);
        expect.equal("its own end", desk.token(2, 2), 33);
        expect.equal("the first stays good", desk.token(1, 0), 1);
        expect.equal("as it was", desk.introspect(2, 1, 1), 0);
        expect.equal("joined with its own", desk.redeem(0, desk.ask(1, 0, 1, -1, 0), 0, 2), 3);
        expect.equal("both", desk.introspect(1, 3, 0), 7);
        desk.rescope(1, 0, 3);
        desk.rescope(1, 2, 8);
        desk.remove(2, 1);
        expect.equal("only what there is", desk.redeem(0, desk.ask(1, 2, 8, -1, 0), 0, 3), 4);
        expect.equal("not of a removed one", desk.token(4, 3), 2);
        desk.rescope(1, 0, 15);
        desk.rescope(1, 2, 15);
        expect.equal("only scopes that it had", desk.introspect(1, 4, 0), 3);
        expect.equal("and it, too", desk.introspect(1, 4, 2), 8);
        desk.rescope(1, 0, 8);
        expect.equal("none is left of one", desk.redeem(0, desk.ask(1, 2, 8, -1, 0), 0, 4), 5);
        expect.equal("and it is not counted", desk.token(5, 3), 1);
        tokenGivenGrantsNothing(expect);
    }

    private static void tokenGivenGrantsNothing(Expect expect) {
        GrantDesk desk = Scenes.served();
        desk.clear(1, 0);
        expect.refused("a token alone grants nothing", Expect.UNSUPPORTED, () -> desk.redeem(0, 1, 4, 1));
        expect.equal("no new token", desk.token(2, 0), -1);
        expect.equal("the token stays", desk.token(1, 0), 1);
    }

    private static void open(Expect expect) {
        GrantDesk desk = Scenes.ruled(Texts.all(Texts.is(0, 5), Texts.is(1, 6)));
        desk.tick(2);
        int ticket = Scenes.pushed(desk, 1, 1, 0, 5);
        desk.tick(3);
        expect.equal("minus the new number", desk.redeem(1, ticket, 0, 0), -3);
        expect.equal("the old one is used", desk.ticket(ticket, 0), 2);
        expect.equal("the new one is live", desk.ticket(3, 0), 1);
        expect.equal("with its client", desk.ticket(3, 1), 2);
        expect.equal("and claims", desk.ticket(3, 2), 1);
        expect.equal("and a new end", desk.ticket(3, 3), 15);
        expect.equal("no token", desk.token(1, 0), -1);
        expect.refused("not for another client", Expect.STATE, () -> desk.redeem(0, 3, 0, 0));
        int full = Scenes.pushed(desk, 1, 3, 1, 6);
        expect.equal("the old one's claims stay", desk.ticket(3, 2), 1);
        expect.equal("granted at last", desk.redeem(1, full, 0, 0), 1);
        expect.equal("with its permission", desk.introspect(1, 1, 0), 1);
        GrantDesk unbound = Scenes.ruled(Texts.is(0, 5));
        expect.equal("an unbound one", unbound.redeem(2, 1, 0, 0), -2);
        expect.equal("is bound", unbound.ticket(1, 1), 3);
        expect.equal("and so is the new one", unbound.ticket(2, 1), 3);
    }

    private static void openOnlyForTheAsked(Expect expect) {
        GrantDesk desk = Scenes.owners();
        desk.rule(1, 0, 2, Texts.text(Texts.is(0, 5)));
        desk.rule(1, 2, 1, Texts.text(Texts.is(0, 5)));
        int apart = desk.ask(1, 0, 1, -1, 0);
        int given = desk.ask(1, 0, 1, -1, 0);
        int lacking = desk.ask(1, 0, 1, -1, 0);
        int other = desk.ask(1, 0, 1, 2, 1);
        int gone = desk.ask(1, 0, 1, 2, 1);
        expect.refused("open for a scope not asked", Expect.UNSUPPORTED, () -> desk.redeem(0, apart, 4, 0));
        expect.equal("asked by the scopes given", desk.redeem(0, given, 2, 0), -6);
        expect.equal("the new one asks as the old did", desk.ticket(6, 0), 1);
        expect.refused("no longer given", Expect.UNSUPPORTED, () -> desk.redeem(0, 6, 0, 0));
        expect.equal("the other resource's rule is open", desk.redeem(0, other, 0, 0), -7);
        desk.rescope(1, 0, 5);
        expect.refused("a scope that it lacks", Expect.UNSUPPORTED, () -> desk.redeem(0, lacking, 2, 0));
        desk.remove(1, 2);
        expect.refused("of a removed one", Expect.UNSUPPORTED, () -> desk.redeem(0, gone, 0, 0));
    }

    private static void nothing(Expect expect) {
        GrantDesk desk = Scenes.ruled(Texts.since(9));
        expect.refused("false", Expect.UNSUPPORTED, () -> desk.redeem(1, 1, 0, 0));
        expect.equal("used", desk.ticket(1, 0), 2);
        expect.equal("bound", desk.ticket(1, 1), 2);
        expect.equal("its end stays", desk.ticket(1, 3), 10);
        expect.equal("its claims, too", desk.ticket(1, 2), 0);
        expect.equal("no new ticket", desk.ticket(2, 0), -1);
        expect.equal("no token", desk.token(1, 0), -1);
        expect.refused("used", Expect.STATE, () -> desk.redeem(1, 1, 0, 0));
        desk.clear(1, 0);
        int ticket = desk.ask(1, 0, 15, -1, 0);
        expect.refused("without rules", Expect.UNSUPPORTED, () -> desk.redeem(0, ticket, 15, 0));
        desk.rule(1, 0, 2, 7);
        int another = desk.ask(1, 0, 1, -1, 0);
        expect.refused("true for another scope", Expect.UNSUPPORTED, () -> desk.redeem(0, another, 12, 0));
    }

    private static void wrongArguments(Expect expect) {
        for (int ticket : new int[] {3, 2, 0}) {
            for (int client : new int[] {-1, 3, Integer.MIN_VALUE, Integer.MAX_VALUE}) {
                expect.refusedWhole("client " + client, Expect.ARGUMENT, Scenes::served, d -> d.redeem(client, ticket, 0, 0));
            }
            for (int scopes : new int[] {-1, 16, Integer.MIN_VALUE, Integer.MAX_VALUE}) {
                expect.refusedWhole("scopes " + scopes, Expect.ARGUMENT, Scenes::served, d -> d.redeem(0, ticket, scopes, 0));
            }
            for (int token : new int[] {-1, 2, 60, Integer.MIN_VALUE, Integer.MAX_VALUE}) {
                expect.refusedWhole("token " + token, Expect.ARGUMENT, Scenes::served, d -> d.redeem(0, ticket, 0, token));
            }
            expect.refusedWhole("another's token", Expect.ARGUMENT, Scenes::served, d -> d.redeem(1, ticket, 0, 1));
            expect.refusedWhole("a dropped token", Expect.ARGUMENT, RedeemTest::dropped, d -> d.redeem(0, ticket, 0, 1));
        }
        GrantDesk desk = Scenes.served();
        desk.tick(29);
        int last = desk.ask(1, 0, 4, -1, 0);
        desk.tick(1);
        expect.refused("a token at its end", Expect.ARGUMENT, () -> desk.redeem(0, last, 0, 1));
        expect.equal("without it", desk.redeem(0, last, 0, 0), 2);
    }

    private static GrantDesk dropped() {
        GrantDesk desk = Scenes.served();
        desk.drop(0, 1);
        return desk;
    }

    private static GrantDesk late() {
        GrantDesk desk = Scenes.served();
        desk.tick(10);
        return desk;
    }

    private static GrantDesk bound() {
        GrantDesk desk = Scenes.served();
        Scenes.pushed(desk, 1, 1, 2, 40);
        return desk;
    }

    private static void notAccepted(Expect expect) {
        for (int ticket : new int[] {0, -1, 4, 60, 61, Integer.MIN_VALUE, Integer.MAX_VALUE}) {
            expect.refusedWhole("ticket " + ticket, Expect.STATE, Scenes::served, d -> d.redeem(0, ticket, 0, 0));
        }
        expect.refusedWhole("used", Expect.STATE, Scenes::served, d -> d.redeem(0, 2, 0, 0));
        expect.refusedWhole("at its end", Expect.STATE, RedeemTest::late, d -> d.redeem(0, 1, 4, 1));
        expect.refusedWhole("another's", Expect.STATE, RedeemTest::bound, d -> d.redeem(0, 4, 0, 0));
        expect.refusedWhole("rotated", Expect.STATE, RedeemTest::bound, d -> d.redeem(1, 1, 0, 0));
        GrantDesk desk = Scenes.served();
        desk.tick(9);
        expect.equal("just before its end", desk.redeem(0, 1, 4, 0), 2);
    }

    private static void full(Expect expect) {
        GrantDesk open = Scenes.crowded(Texts.is(2, 40));
        expect.refused("no room to rotate", Expect.STATE, () -> open.redeem(0, 60, 0, 0));
        expect.equal("still live", open.ticket(60, 0), 1);
        expect.equal("bound to none", open.ticket(60, 1), 0);
        open.clear(1, 0);
        expect.refused("nothing to rotate", Expect.UNSUPPORTED, () -> open.redeem(0, 60, 0, 0));
        expect.equal("used", open.ticket(60, 0), 2);
        expect.equal("bound", open.ticket(60, 1), 1);
        GrantDesk free = Scenes.crowded(Texts.ever());
        for (int ticket = 1; ticket <= 60; ticket++) {
            expect.equal("token", free.redeem(ticket % 3, ticket, 0, 0), ticket);
        }
        expect.equal("the last one", free.introspect(1, 60, 0), 1);
        expect.equal("there is no 61st", free.token(61, 0), -1);
    }
}
