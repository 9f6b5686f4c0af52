@Section("Promise 10: push")
public final class PushTest {
    private static final String PUSHED = "A claim is pushed: the ticket is accepted from the client and rotated, and"
            + " the new one has the claim, in place of one of its kind: the new number.";
    private static final String END = "(It ends 10 ticks from now;";
    private static final String UNBOUND =
            "when anything is thrown the old one is bound to no other client than before.)";
    private static final String ARGUMENT = "IllegalArgumentException: no such client, kind or value.";
    private static final String STATE = "IllegalStateException: the ticket is not accepted, or there were 60.";
    private static final String UNSUPPORTED = "UnsupportedOperationException: the seal is not the claim's.";

    public static void main(String[] args) {
        Tests.run(PushTest.class);
    }

    /** As served, with as many tickets as there may be, the last for scope 1 of resource 0. */
    private static GrantDesk sixty() {
        GrantDesk desk = Scenes.served();
        for (int ticket = 4; ticket <= 60; ticket++) {
            desk.ask(1, 0, 1, -1, 0);
        }
        return desk;
    }

    @Sentence(PUSHED)
    static void theOldOneIsAcceptedAndUsed(Expect expect) {
        GrantDesk desk = Scenes.served();
        desk.push(1, 1, 2, 40, 9085);
        expect.equal("used", desk.ticket(1, 0), 2);
        expect.equal("bound", desk.ticket(1, 1), 2);
        expect.equal("has no claim", desk.ticket(1, 2), 0);
        expect.equal("keeps its end", desk.ticket(1, 3), 10);
        expect.equal("another ticket stays", desk.ticket(3, 0), 1);
        expect.equal("unbound", desk.ticket(3, 1), 0);
    }

    @Sentence(PUSHED)
    static void theNewOneHasTheClaim(Expect expect) {
        GrantDesk desk = Scenes.served();
        expect.equal("its number", desk.push(1, 1, 2, 40, 9085), 4);
        expect.equal("live", desk.ticket(4, 0), 1);
        expect.equal("bound", desk.ticket(4, 1), 2);
        expect.equal("its kind", desk.ticket(4, 2), 4);
        expect.equal("its value", desk.redeem(1, 4, 0, 0), 2);
        expect.equal("the permissions", desk.introspect(1, 2, 0), 1);
    }

    @Sentence(PUSHED)
    static void besideThoseOfOtherKinds(Expect expect) {
        GrantDesk desk = Scenes.ruled(Texts.all(Texts.is(0, 5), Texts.is(11, 6)));
        int first = Scenes.pushed(desk, 0, 1, 0, 5);
        int second = Scenes.pushed(desk, 0, first, 11, 6);
        expect.equal("the numbers rise", second, 3);
        expect.equal("both kinds", desk.ticket(second, 2), 1 + 2048);
        expect.equal("the old one keeps its own", desk.ticket(first, 2), 1);
        expect.equal("both values", desk.redeem(0, second, 0, 0), 1);
    }

    @Sentence(PUSHED)
    static void inPlaceOfOneOfItsKind(Expect expect) {
        GrantDesk desk = Scenes.ruled(Texts.is(3, 8));
        int first = Scenes.pushed(desk, 0, 1, 3, 9);
        int second = Scenes.pushed(desk, 0, first, 3, 8);
        expect.equal("one kind", desk.ticket(second, 2), 8);
        expect.equal("the new value", desk.redeem(0, second, 0, 0), 1);
        GrantDesk back = Scenes.ruled(Texts.is(3, 8));
        int third = Scenes.pushed(back, 0, Scenes.pushed(back, 0, 1, 3, 8), 3, 9);
        expect.refused("no longer the old value", Expect.UNSUPPORTED, () -> back.redeem(0, third, 0, 0));
    }

    @Sentence(END)
    static void endsTenTicksFromNow(Expect expect) {
        GrantDesk desk = Scenes.later(Scenes.served(), 4);
        desk.push(1, 1, 2, 40, 9085);
        expect.equal("its end", desk.ticket(4, 3), 14);
        desk.tick(9);
        expect.equal("live just before it", desk.ticket(4, 0), 1);
        expect.equal("pushed anew", desk.push(1, 4, 2, 40, 9085), 5);
        expect.equal("its end", desk.ticket(5, 3), 23);
        desk.tick(10);
        expect.equal("not live at it", desk.ticket(5, 0), 3);
    }

    @Sentence(UNBOUND)
    static void anUnboundOneStaysUnbound(Expect expect) {
        expect.refusedWhole("by the kind", Expect.ARGUMENT, Scenes::bound, desk -> desk.push(0, 3, 12, 40, 9085));
        expect.refusedWhole("by the seal", Expect.UNSUPPORTED, Scenes::bound, desk -> desk.push(0, 3, 2, 40, 9084));
        expect.refusedWhole("by the end", Expect.STATE, () -> Scenes.later(Scenes.served(), 10),
                desk -> desk.push(0, 3, 2, 40, 9085));
        expect.refusedWhole("by the sixty", Expect.STATE, PushTest::sixty, desk -> desk.push(0, 60, 2, 40, 9085));
        GrantDesk desk = Scenes.bound();
        expect.refused("by the seal", Expect.UNSUPPORTED, () -> desk.push(0, 3, 2, 40, 9084));
        expect.equal("no client", desk.ticket(3, 1), 0);
        expect.equal("then bound to another", desk.push(2, 3, 2, 40, 9085), 5);
    }

    @Sentence(UNBOUND)
    static void aBoundOneStaysBound(Expect expect) {
        GrantDesk desk = Scenes.bound();
        expect.refused("another client", Expect.STATE, () -> desk.push(0, 4, 2, 40, 9085));
        expect.equal("its client", desk.ticket(4, 1), 2);
        expect.refused("the seal", Expect.UNSUPPORTED, () -> desk.push(1, 4, 2, 41, 9085));
        expect.equal("its client", desk.ticket(4, 1), 2);
        expect.equal("its claim", desk.redeem(1, 4, 0, 0), 2);
    }

    @Sentence(ARGUMENT)
    static void everyClientPushes(Expect expect) {
        for (int client = 0; client <= 2; client++) {
            GrantDesk desk = Scenes.served();
            expect.equal("push", desk.push(client, 1, 2, 40, 9085), 4);
            expect.equal("its client", desk.ticket(4, 1), client + 1);
        }
    }

    @Sentence(ARGUMENT)
    static void noSuchClient(Expect expect) {
        expect.refusedFor(Edges.outside(0, 2), "client", Expect.ARGUMENT, Scenes::served,
                (desk, client) -> desk.push(client, 1, 2, 40, 9085));
    }

    @Sentence(ARGUMENT)
    static void leastAndGreatestKind(Expect expect) {
        GrantDesk desk = Scenes.served();
        expect.equal("the least", desk.push(0, 1, 0, 40, 7067), 4);
        expect.equal("as a bit", desk.ticket(4, 2), 1);
        expect.equal("the greatest", desk.push(0, 4, 11, 40, 8193), 5);
        expect.equal("as bits", desk.ticket(5, 2), 1 + 2048);
    }

    /** With the seal that the sum would have, too: it is the kind that is looked at. */
    @Sentence(ARGUMENT)
    static void noSuchKind(Expect expect) {
        expect.refusedFor(Edges.outside(0, 11), "kind", Expect.ARGUMENT, Scenes::served,
                (desk, kind) -> desk.push(0, 1, kind, 40, Texts.seal(kind, 40)));
        expect.refusedFor(Edges.outside(0, 11), "kind", Expect.ARGUMENT, Scenes::served,
                (desk, kind) -> desk.push(0, 1, kind, 40, -1));
    }

    @Sentence(ARGUMENT)
    static void leastAndGreatestValue(Expect expect) {
        GrantDesk desk = Scenes.served();
        expect.equal("the least", desk.push(0, 1, 2, 0, 5045), 4);
        expect.equal("the greatest", desk.push(0, 4, 2, 99, 5071), 5);
    }

    @Sentence(ARGUMENT)
    static void noSuchValue(Expect expect) {
        expect.refusedFor(Edges.outside(0, 99), "value", Expect.ARGUMENT, Scenes::served,
                (desk, value) -> desk.push(0, 1, 2, value, Texts.seal(2, value)));
        expect.refusedFor(Edges.outside(0, 99), "value", Expect.ARGUMENT, Scenes::served,
                (desk, value) -> desk.push(0, 1, 2, value, -1));
    }

    @Sentence(STATE)
    static void thereIsNoSuchTicket(Expect expect) {
        expect.refusedFor(Edges.and(Edges.outside(1, 3), 60, 61), "ticket", Expect.STATE, Scenes::served,
                (desk, ticket) -> desk.push(0, ticket, 2, 40, 9085));
        expect.refusedFor(new int[] {0, 1}, "ticket", Expect.STATE, GrantDesk::new,
                (desk, ticket) -> desk.push(0, ticket, 2, 40, 9085));
    }

    @Sentence(STATE)
    static void aUsedTicket(Expect expect) {
        expect.refusedWhole("redeemed", Expect.STATE, Scenes::bound, desk -> desk.push(0, 2, 2, 40, 9085));
        expect.refusedWhole("rotated", Expect.STATE, Scenes::bound, desk -> desk.push(1, 1, 2, 40, 9085));
    }

    @Sentence(STATE)
    static void anotherClientsTicket(Expect expect) {
        expect.refusedFor(new int[] {0, 2}, "client", Expect.STATE, Scenes::bound,
                (desk, client) -> desk.push(client, 4, 2, 40, 9085));
        expect.equal("its own", Scenes.bound().push(1, 4, 2, 40, 9085), 5);
    }

    @Sentence(STATE)
    static void justBeforeAndAtItsEnd(Expect expect) {
        expect.equal("just before", Scenes.later(Scenes.served(), 9).push(0, 1, 2, 40, 9085), 4);
        for (int ticks : new int[] {10, 11, 100}) {
            expect.refusedWhole("after " + ticks, Expect.STATE, () -> Scenes.later(Scenes.served(), ticks),
                    desk -> desk.push(0, 1, 2, 40, 9085));
        }
    }

    @Sentence(STATE)
    static void thereIsASixtieth(Expect expect) {
        GrantDesk desk = Scenes.ruled(Texts.ever());
        for (int ticket = 1; ticket < 60; ticket++) {
            expect.equal("rotated to", Scenes.pushed(desk, 2, ticket, ticket % 12, ticket), ticket + 1);
        }
        expect.equal("all kinds", desk.ticket(60, 2), 4095);
    }

    @Sentence(STATE)
    static void thereIsNoSixtyFirst(Expect expect) {
        expect.refusedWhole("the 61st", Expect.STATE, PushTest::sixty, desk -> desk.push(0, 60, 2, 40, 9085));
        GrantDesk desk = sixty();
        expect.refused("the 61st", Expect.STATE, () -> desk.push(0, 60, 2, 40, 9085));
        expect.equal("still live", desk.ticket(60, 0), 1);
        expect.equal("it is none", desk.ticket(61, 0), -1);
    }

    @Sentence(UNSUPPORTED)
    static void justBesideTheSeal(Expect expect) {
        expect.refusedFor(Edges.outside(9085, 9085), "seal", Expect.UNSUPPORTED, Scenes::served,
                (desk, seal) -> desk.push(0, 1, 2, 40, seal));
    }

    @Sentence(UNSUPPORTED)
    static void theSumOrARestBelowZero(Expect expect) {
        expect.equal("22 is the seal", Scenes.served().push(0, 1, 1, 59, 22), 4);
        expect.refusedFor(new int[] {22 + 9973, 22 - 9973, -22, 0}, "seal", Expect.UNSUPPORTED, Scenes::served,
                (desk, seal) -> desk.push(0, 1, 1, 59, seal));
    }

    @Sentence(UNSUPPORTED)
    static void anotherClaimsSeal(Expect expect) {
        int[] others = {Texts.seal(1, 40), Texts.seal(3, 40), Texts.seal(2, 39), Texts.seal(2, 41)};
        expect.refusedFor(others, "seal", Expect.UNSUPPORTED, Scenes::served,
                (desk, seal) -> desk.push(0, 1, 2, 40, seal));
    }

    @Sentence(ARGUMENT + " " + STATE + " " + UNSUPPORTED)
    static void theFirstThatIsDue(Expect expect) {
        Mixture.Call push = (desk, a) -> desk.push(a[0], a[1], a[2], a[3], a[4]);
        mixture(new Mixture(expect, push, 0, 3, 2, 40, 9085)).in(Scenes::bound);
        mixture(new Mixture(expect, push, 0, 60, 2, 40, 9085)).inRefusing(PushTest::sixty, Expect.STATE);
    }

    private static Mixture mixture(Mixture good) {
        return good.lists(Expect.ARGUMENT).wrong(0, -1, 3).wrong(2, -1, 12).wrong(3, -1, 100)
                .lists(Expect.STATE).wrong(1, 0, 2, 61)
                .lists(Expect.UNSUPPORTED).wrong(4, 9084);
    }
}
