/** When a ticket is live, used, accepted, bound and rotated. */
@Section("Terms")
public final class TicketLifeTest {
    private static final String TICKET = "A TICKET has a number (1, 2, ..), PERMISSIONS: one or two pairs of a resource"
            + " and scopes, claims (at most one of each kind), a client it is BOUND to, or none, and ends 10 ticks"
            + " after it was made.";
    private static final String LIVE = "It is LIVE until it is USED, or its end comes (the clock is not less).";
    private static final String ACCEPTED =
            "It is ACCEPTED from a client if it is LIVE and bound to no other one; then it is bound to that client.";
    private static final String ROTATE = "To ROTATE a ticket: it is USED, and a new one has the next number, its"
            + " permissions, claims and client.";

    public static void main(String[] args) {
        Tests.run(TicketLifeTest.class);
    }

    @Sentence(TICKET)
    static void numbersAskedPushedAndRotated(Expect expect) {
        GrantDesk desk = Scenes.ruled(Texts.is(0, 1));
        expect.equal("asked", desk.ask(1, 0, 1, -1, 0), 2);
        expect.equal("pushed", Scenes.pushed(desk, 0, 1, 1, 1), 3);
        expect.equal("rotated", desk.redeem(0, 2, 0, 0), -4);
        expect.equal("asked again", desk.ask(1, 0, 1, -1, 0), 5);
    }

    @Sentence(TICKET)
    static void oneOrTwoPermissions(Expect expect) {
        GrantDesk desk = Scenes.generous();
        desk.redeem(0, desk.ask(1, 0, 2, -1, 0), 0, 0);
        desk.redeem(0, desk.ask(1, 0, 2, 2, 9), 0, 0);
        expect.equal("one", desk.token(1, 3), 1);
        expect.equal("two", desk.token(2, 3), 2);
        expect.equal("scopes of the one", desk.introspect(1, 2, 0), 2);
        expect.equal("scopes of the other", desk.introspect(1, 2, 2), 9);
    }

    @Sentence(TICKET)
    static void atMostOneClaimOfEachKind(Expect expect) {
        GrantDesk desk = Scenes.ruled(Texts.any(Texts.is(4, 1), Texts.is(4, 2)));
        int ticket = Scenes.pushed(desk, 0, Scenes.pushed(desk, 0, Scenes.pushed(desk, 0, 1, 4, 1), 4, 2), 4, 3);
        expect.equal("one kind", desk.ticket(ticket, 2), 16);
        expect.refused("the last one's value", Expect.UNSUPPORTED, () -> desk.redeem(0, ticket, 0, 0));
    }

    @Sentence(TICKET)
    static void boundToNoneOrOne(Expect expect) {
        GrantDesk desk = Scenes.bound();
        expect.equal("none", desk.ticket(3, 1), 0);
        expect.equal("one", desk.ticket(4, 1), 2);
    }

    @Sentence(TICKET)
    static void endsTenTicksAfterItWasMade(Expect expect) {
        GrantDesk desk = Scenes.ruled(Texts.is(0, 1));
        desk.tick(3);
        expect.equal("asked at 0", desk.ticket(1, 3), 10);
        expect.equal("pushed at 3", desk.ticket(Scenes.pushed(desk, 0, 1, 1, 1), 3), 13);
        desk.tick(4);
        expect.equal("rotated at 7", desk.ticket(-desk.redeem(0, 2, 0, 0), 3), 17);
        expect.equal("asked at 7", desk.ticket(desk.ask(1, 0, 1, -1, 0), 3), 17);
    }

    @Sentence(LIVE)
    static void untilItsEndComes(Expect expect) {
        GrantDesk desk = Scenes.served();
        for (int clock = 0; clock <= 12; clock++) {
            expect.equal("at " + clock, desk.ticket(1, 0), clock < 10 ? 1 : 3);
            desk.tick(1);
        }
    }

    @Sentence(LIVE)
    static void untilItIsUsed(Expect expect) {
        GrantDesk desk = Scenes.bound();
        expect.equal("rotated by push", desk.ticket(1, 0), 2);
        expect.equal("for a token", desk.ticket(2, 0), 2);
        desk.redeem(0, 3, 0, 0);
        expect.equal("rotated by redeem", desk.ticket(3, 0), 2);
        desk.clear(1, 0);
        expect.refused("nothing granted", Expect.UNSUPPORTED, () -> desk.redeem(0, 5, 0, 0));
        expect.equal("for nothing", desk.ticket(5, 0), 2);
        desk.tick(100);
        expect.equal("still used when its end came", desk.ticket(5, 0), 2);
    }

    @Sentence(ACCEPTED)
    static void onlyWhileItIsLive(Expect expect) {
        expect.refusedWhole("used", Expect.STATE, Scenes::bound, desk -> desk.redeem(1, 1, 0, 0));
        expect.refusedWhole("used", Expect.STATE, Scenes::bound, desk -> desk.push(1, 1, 2, 40, 9085));
        expect.refusedWhole("at its end", Expect.STATE, () -> Scenes.later(Scenes.bound(), 10),
                desk -> desk.redeem(1, 4, 0, 0));
        expect.refusedWhole("at its end", Expect.STATE, () -> Scenes.later(Scenes.bound(), 10),
                desk -> desk.push(1, 4, 2, 40, 9085));
        expect.equal("just before", Scenes.later(Scenes.bound(), 9).redeem(1, 4, 0, 0), 2);
        expect.equal("just before", Scenes.later(Scenes.bound(), 9).push(1, 4, 2, 40, 9085), 5);
    }

    @Sentence(ACCEPTED)
    static void fromNoOtherClient(Expect expect) {
        for (int client = 0; client <= 2; client++) {
            for (int other = 0; other <= 2; other++) {
                GrantDesk desk = Scenes.ruled(Texts.ever());
                int c = other;
                int ticket = Scenes.pushed(desk, client, 1, 0, 0);
                if (other == client) {
                    expect.equal("its client", desk.redeem(c, ticket, 0, 0), 1);
                } else {
                    expect.refused("push", Expect.STATE, () -> Scenes.pushed(desk, c, ticket, 0, 0));
                    expect.refused("redeem", Expect.STATE, () -> desk.redeem(c, ticket, 0, 0));
                    expect.equal("its client", desk.ticket(ticket, 1), client + 1);
                }
            }
        }
    }

    @Sentence(ACCEPTED)
    static void thenItIsBound(Expect expect) {
        for (int client = 0; client <= 2; client++) {
            GrantDesk desk = Scenes.served();
            Scenes.pushed(desk, client, 1, 0, 0);
            expect.equal("by push", desk.ticket(1, 1), client + 1);
            desk.redeem(client, 3, 4, 0);
            expect.equal("by redeem", desk.ticket(3, 1), client + 1);
        }
    }

    @Sentence(ROTATE)
    static void byPush(Expect expect) {
        GrantDesk desk = Scenes.generous();
        int old = Scenes.pushed(desk, 2, desk.ask(1, 0, 5, 2, 10), 7, 70);
        int fresh = Scenes.pushed(desk, 2, old, 8, 80);
        expect.equal("the old one is used", desk.ticket(old, 0), 2);
        expect.equal("the next number", fresh, old + 1);
        expect.equal("its client", desk.ticket(fresh, 1), 3);
        expect.equal("its claims", desk.ticket(fresh, 2), 128 + 256);
        desk.redeem(2, fresh, 0, 0);
        expect.equal("its first permission", desk.introspect(1, 1, 0), 5);
        expect.equal("its other permission", desk.introspect(1, 1, 2), 10);
    }

    @Sentence(ROTATE)
    static void byRedeem(Expect expect) {
        GrantDesk desk = Scenes.owners();
        desk.rule(1, 0, 15, Texts.text(Texts.all(Texts.is(7, 70), Texts.is(8, 80))));
        desk.rule(1, 2, 15, Texts.text(Texts.is(8, 80)));
        int old = Scenes.pushed(desk, 2, desk.ask(1, 0, 5, 2, 10), 7, 70);
        int fresh = -desk.redeem(2, old, 0, 0);
        expect.equal("the old one is used", desk.ticket(old, 0), 2);
        expect.equal("the next number", fresh, old + 1);
        expect.equal("its client", desk.ticket(fresh, 1), 3);
        expect.equal("its claims", desk.ticket(fresh, 2), 128);
        desk.redeem(2, Scenes.pushed(desk, 2, fresh, 8, 80), 0, 0);
        expect.equal("its first permission", desk.introspect(1, 1, 0), 5);
        expect.equal("its other permission", desk.introspect(1, 1, 2), 10);
    }
}
