@Section("Promise 11: redeem")
public final class RedeemRefusedTest {
    private static final String ARGUMENT = "IllegalArgumentException: no such client, scopes not 0 .. 15, or the token"
            + " is neither 0 nor a GOOD one of the client.";
    private static final String STATE = "IllegalStateException: the ticket is not accepted; or it would have to be"
            + " rotated, and there were 60.";
    private static final String UNSUPPORTED = "UnsupportedOperationException: nothing is granted, and no such rule is"
            + " OPEN: the ticket is bound to the client and USED then (nothing else changes).";

    public static void main(String[] args) {
        Tests.run(RedeemRefusedTest.class);
    }

    /** As bound; token 2 is of client 1, and token 3 of client 0 is dropped. */
    private static GrantDesk tokens() {
        GrantDesk desk = Scenes.bound();
        desk.redeem(1, desk.ask(1, 0, 4, -1, 0), 0, 0);
        desk.redeem(0, desk.ask(1, 0, 4, -1, 0), 0, 0);
        desk.drop(0, 3);
        return desk;
    }

    /** As tokens, with as many tickets as there may be, the last for some scopes of resource 0. */
    private static GrantDesk sixty(int scopes) {
        GrantDesk desk = tokens();
        for (int ticket = 7; ticket <= 60; ticket++) {
            desk.ask(1, 0, scopes, -1, 0);
        }
        return desk;
    }

    @Sentence(ARGUMENT)
    static void noSuchClient(Expect expect) {
        expect.refusedFor(Edges.outside(0, 2), "client", Expect.ARGUMENT, Scenes::served,
                (desk, client) -> desk.redeem(client, 3, 4, 0));
        expect.refusedFor(Edges.outside(0, 2), "client, with a token", Expect.ARGUMENT, Scenes::served,
                (desk, client) -> desk.redeem(client, 3, 4, 1));
    }

    @Sentence(ARGUMENT)
    static void leastAndGreatestScopes(Expect expect) {
        GrantDesk desk = Scenes.generous();
        desk.redeem(0, desk.ask(1, 2, 4, -1, 0), 0, 0);
        expect.equal("none", desk.introspect(1, 1, 2), 4);
        desk.redeem(0, desk.ask(1, 2, 4, -1, 0), 15, 0);
        expect.equal("all", desk.introspect(1, 2, 2), 15);
    }

    @Sentence(ARGUMENT)
    static void scopesOutside(Expect expect) {
        expect.refusedFor(Edges.outside(0, 15), "scopes", Expect.ARGUMENT, Scenes::served,
                (desk, scopes) -> desk.redeem(0, 3, scopes, 0));
    }

    @Sentence(ARGUMENT)
    static void noSuchToken(Expect expect) {
        expect.refusedFor(Edges.and(Edges.outside(0, 1), 60, 61), "token", Expect.ARGUMENT, Scenes::served,
                (desk, token) -> desk.redeem(0, 3, 4, token));
        expect.refusedWhole("before there is a token", Expect.ARGUMENT, () -> Scenes.ruled(Texts.ever()),
                desk -> desk.redeem(0, 1, 0, 1));
    }

    @Sentence(ARGUMENT)
    static void anotherClientsToken(Expect expect) {
        expect.refusedWhole("of client 1", Expect.ARGUMENT, RedeemRefusedTest::tokens, desk -> desk.redeem(0, 3, 4, 2));
        expect.refusedWhole("of client 0", Expect.ARGUMENT, RedeemRefusedTest::tokens, desk -> desk.redeem(1, 3, 4, 1));
        expect.equal("its own", tokens().redeem(1, 3, 4, 2), 4);
    }

    @Sentence(ARGUMENT)
    static void aDroppedToken(Expect expect) {
        expect.refusedWhole("dropped", Expect.ARGUMENT, RedeemRefusedTest::tokens, desk -> desk.redeem(0, 3, 4, 3));
    }

    /** As served, with a ticket that was asked after some ticks. */
    private static GrantDesk askedAt(int ticks) {
        GrantDesk desk = Scenes.later(Scenes.served(), ticks);
        desk.ask(1, 0, 4, -1, 0);
        return desk;
    }

    @Sentence(ARGUMENT)
    static void aTokenJustBeforeAndAtItsEnd(Expect expect) {
        expect.equal("just before", askedAt(29).redeem(0, 4, 0, 1), 2);
        expect.refusedWhole("at it", Expect.ARGUMENT, () -> askedAt(30), desk -> desk.redeem(0, 4, 0, 1));
    }

    @Sentence(STATE)
    static void thereIsNoSuchTicket(Expect expect) {
        expect.refusedFor(Edges.and(Edges.outside(1, 3), 60, 61), "ticket", Expect.STATE, Scenes::served,
                (desk, ticket) -> desk.redeem(0, ticket, 4, 0));
        expect.refusedFor(new int[] {0, 1}, "ticket", Expect.STATE, GrantDesk::new,
                (desk, ticket) -> desk.redeem(0, ticket, 0, 0));
    }

    @Sentence(STATE)
    static void aUsedTicket(Expect expect) {
        expect.refusedWhole("redeemed", Expect.STATE, Scenes::bound, desk -> desk.redeem(0, 2, 4, 0));
        expect.refusedWhole("rotated", Expect.STATE, Scenes::bound, desk -> desk.redeem(1, 1, 4, 0));
    }

    @Sentence(STATE)
    static void anotherClientsTicket(Expect expect) {
        expect.refusedFor(new int[] {0, 2}, "client", Expect.STATE, Scenes::bound,
                (desk, client) -> desk.redeem(client, 4, 4, 0));
    }

    @Sentence(STATE)
    static void justBeforeAndAtItsEnd(Expect expect) {
        expect.equal("just before", Scenes.later(Scenes.served(), 9).redeem(0, 1, 4, 0), 2);
        for (int ticks : new int[] {10, 11, 100}) {
            expect.refusedWhole("after " + ticks, Expect.STATE, () -> Scenes.later(Scenes.served(), ticks),
                    desk -> desk.redeem(0, 1, 4, 0));
        }
    }

    @Sentence(STATE)
    static void rotatedToTheSixtieth(Expect expect) {
        GrantDesk desk = Scenes.crowded(59, Texts.is(2, 40));
        expect.equal("minus the new number", desk.redeem(0, 59, 0, 0), -60);
        expect.equal("live", desk.ticket(60, 0), 1);
    }

    @Sentence(STATE)
    static void notRotatedToASixtyFirst(Expect expect) {
        expect.refusedWhole("the 61st", Expect.STATE, () -> sixty(1), desk -> desk.redeem(0, 60, 0, 0));
        GrantDesk desk = sixty(1);
        expect.refused("the 61st", Expect.STATE, () -> desk.redeem(0, 60, 0, 0));
        expect.equal("still live", desk.ticket(60, 0), 1);
        expect.equal("unbound", desk.ticket(60, 1), 0);
        expect.equal("it is none", desk.ticket(61, 0), -1);
        expect.equal("another client may come", desk.redeem(2, 60, 4, 0), 4);
    }

    @Sentence(STATE)
    static void grantedThoughThereWereSixty(Expect expect) {
        GrantDesk desk = Scenes.crowded(60, Texts.ever());
        for (int ticket = 1; ticket <= 60; ticket++) {
            expect.equal("token", desk.redeem(ticket % 3, ticket, 0, 0), ticket);
        }
        expect.equal("the last one's scopes", desk.introspect(1, 60, 0), 1);
    }

    @Sentence(UNSUPPORTED)
    static void theTicketIsBoundAndUsed(Expect expect) {
        for (int client = 0; client <= 2; client++) {
            GrantDesk desk = Scenes.ruled(Texts.since(9));
            int c = client;
            expect.refused("a false rule", Expect.UNSUPPORTED, () -> desk.redeem(c, 1, 0, 0));
            expect.equal("used", desk.ticket(1, 0), 2);
            expect.equal("its client", desk.ticket(1, 1), client + 1);
            expect.refused("not again", Expect.STATE, () -> desk.redeem(c, 1, 0, 0));
        }
    }

    @Sentence(UNSUPPORTED)
    static void nothingElseChanges(Expect expect) {
        GrantDesk desk = Scenes.bound();
        int ticket = desk.ask(1, 2, 8, -1, 0);
        expect.refused("no rules", Expect.UNSUPPORTED, () -> desk.redeem(0, ticket, 15, 1));
        expect.equal("the end", desk.ticket(ticket, 3), 10);
        expect.equal("the claims", desk.ticket(ticket, 2), 0);
        expect.equal("not rotated", desk.ticket(ticket + 1, 0), -1);
        expect.equal("no token", desk.token(2, 0), -1);
        expect.equal("the token given", desk.token(1, 0), 1);
        expect.equal("its scopes", desk.introspect(1, 1, 0), 4);
        expect.equal("another ticket", desk.ticket(3, 0), 1);
        expect.equal("unbound", desk.ticket(3, 1), 0);
        expect.equal("the rules", desk.resource(0, 2), 2);
        expect.equal("the clock", desk.tick(0), 0);
        expect.equal("the next ticket", desk.ask(1, 2, 8, -1, 0), ticket + 1);
    }

    @Sentence(UNSUPPORTED)
    static void aResourceWithoutRules(Expect expect) {
        GrantDesk desk = Scenes.owners();
        expect.refused("redeem", Expect.UNSUPPORTED, () -> desk.redeem(0, desk.ask(1, 0, 7, 2, 15), 15, 0));
    }

    @Sentence(UNSUPPORTED)
    static void rulesForOtherScopesAlone(Expect expect) {
        GrantDesk desk = Scenes.owners();
        desk.rule(1, 0, 6, Texts.EVER);
        desk.rule(1, 0, 6, Texts.text(Texts.is(0, 0)));
        desk.rule(1, 0, 8, Texts.EVER);
        expect.refused("true and open", Expect.UNSUPPORTED, () -> desk.redeem(0, desk.ask(1, 0, 1, -1, 0), 0, 0));
        expect.refused("given, but lacking", Expect.UNSUPPORTED, () -> desk.redeem(0, desk.ask(1, 0, 1, -1, 0), 8, 0));
    }

    @Sentence(UNSUPPORTED)
    static void openRulesOfOtherResourcesAlone(Expect expect) {
        GrantDesk desk = Scenes.owners();
        desk.rule(1, 2, 15, Texts.text(Texts.is(0, 0)));
        desk.rule(1, 0, 1, Texts.text(Texts.since(1)));
        expect.refused("not asked for", Expect.UNSUPPORTED, () -> desk.redeem(0, desk.ask(1, 0, 1, -1, 0), 15, 0));
        int ticket = desk.ask(1, 0, 1, 2, 1);
        desk.remove(1, 2);
        expect.refused("taken out", Expect.UNSUPPORTED, () -> desk.redeem(0, ticket, 15, 0));
    }

    @Sentence(UNSUPPORTED)
    static void aTokenGivenGrantsNothing(Expect expect) {
        GrantDesk desk = Scenes.served();
        desk.clear(1, 0);
        expect.refused("redeem", Expect.UNSUPPORTED, () -> desk.redeem(0, 1, 4, 1));
        expect.equal("no new token", desk.token(2, 0), -1);
    }

    @Sentence(UNSUPPORTED)
    static void thoughThereWereSixty(Expect expect) {
        GrantDesk desk = sixty(2);
        expect.refused("nothing to rotate", Expect.UNSUPPORTED, () -> desk.redeem(2, 60, 0, 0));
        expect.equal("used", desk.ticket(60, 0), 2);
        expect.equal("its client", desk.ticket(60, 1), 3);
    }

    private static Mixture mixture(Expect expect, int ticket, int scopes) {
        return new Mixture(expect, (desk, a) -> desk.redeem(a[0], a[1], a[2], a[3]), 0, ticket, scopes, 1)
                .lists(Expect.ARGUMENT).wrong(0, -1, 3).wrong(2, -1, 16).wrong(3, -1, 2, 3, 4)
                .lists(Expect.STATE).wrong(1, 0, 1, 2, 4, 61);
    }

    @Sentence(ARGUMENT + " " + STATE)
    static void theFirstThatIsDueBeforeAToken(Expect expect) {
        mixture(expect, 3, 4).in(RedeemRefusedTest::tokens);
        mixture(expect, 60, 4).in(() -> sixty(1));
    }

    @Sentence(ARGUMENT + " " + STATE)
    static void theFirstThatIsDueBeforeARotation(Expect expect) {
        mixture(expect, 3, 0).in(RedeemRefusedTest::tokens);
        mixture(expect, 60, 0).inRefusing(() -> sixty(1), Expect.STATE);
    }

    @Sentence(ARGUMENT + " " + STATE + " " + UNSUPPORTED)
    static void theFirstThatIsDueWhenNothingIsGranted(Expect expect) {
        mixture(expect, 60, 0).in(() -> sixty(2));
    }
}
