/** What the document says before its terms: the parts together, and as many calls as an object may have. */
@Section("What it is")
public final class UseTest {
    private static final String CALLS =
            "An object is used for at most 512 calls after it has been made; what later calls answer is free.";

    public static void main(String[] args) {
        Tests.run(UseTest.class);
    }

    @Sentence("A server that decides who may use what:")
    static void whoMayUseWhat(Expect expect) {
        GrantDesk desk = Scenes.served();
        int ticket = Scenes.pushed(desk, 2, 1, 2, 40);
        int token = desk.redeem(2, ticket, 4, 0);
        expect.equal("client 2, with claim 2 = 40, of resource 0", desk.introspect(1, token, 0), 5);
        expect.equal("of resource 2", desk.introspect(1, token, 2), 0);
        expect.equal("of another owner's", desk.introspect(2, token, 1), 0);
        expect.equal("client 0, without claims, of resource 0", desk.introspect(1, 1, 0), 4);
    }

    @Sentence("owners' resources and the rules that owners set on them,")
    static void ownersSetRules(Expect expect) {
        GrantDesk desk = Scenes.owners();
        expect.equal("a rule of its owner", desk.rule(1, 0, 7, Texts.EVER), 1);
        expect.refused("a rule of another", Expect.NO_SUCH, () -> desk.rule(2, 0, 7, Texts.EVER));
        expect.equal("a rule of the other on its own", desk.rule(2, 1, 3, Texts.EVER), 1);
        expect.equal("rules of resource 0", desk.resource(0, 2), 1);
    }

    @Sentence("one-time tickets for what is asked,")
    static void ticketsServeOnce(Expect expect) {
        GrantDesk desk = Scenes.generous();
        desk.ask(1, 0, 2, 2, 8);
        expect.equal("the first time", desk.redeem(0, 1, 0, 0), 1);
        expect.equal("what was asked of resource 0", desk.introspect(1, 1, 0), 2);
        expect.equal("what was asked of resource 2", desk.introspect(1, 1, 2), 8);
        expect.refused("the second time", Expect.STATE, () -> desk.redeem(0, 1, 0, 0));
        expect.refused("a claim onto it", Expect.STATE, () -> Scenes.pushed(desk, 0, 1, 0, 0));
    }

    @Sentence("claims that are pushed onto a ticket,")
    static void claimsArePushed(Expect expect) {
        GrantDesk desk = Scenes.served();
        int ticket = Scenes.pushed(desk, 0, Scenes.pushed(desk, 0, 1, 2, 40), 11, 99);
        expect.equal("their kinds", desk.ticket(ticket, 2), 1 << 2 | 1 << 11);
        expect.equal("the kinds of another ticket", desk.ticket(3, 2), 0);
    }

    @Sentence("and tokens that are given for a ticket when the rules grant something on just these claims.")
    static void onJustTheseClaims(Expect expect) {
        GrantDesk desk = Scenes.served();
        int right = Scenes.pushed(desk, 0, 1, 2, 40);
        int wrong = Scenes.pushed(desk, 0, 3, 2, 41);
        desk.ask(1, 0, 1, -1, 0);
        expect.refused("on another value", Expect.UNSUPPORTED, () -> desk.redeem(0, wrong, 0, 0));
        expect.equal("without claims, whatever another ticket has", desk.redeem(0, 6, 0, 0), -7);
        expect.equal("on the claim of the rule", desk.redeem(0, right, 0, 0), 2);
    }

    @Sentence(CALLS)
    static void theLastOf512Ticks(Expect expect) {
        GrantDesk desk = new GrantDesk();
        for (int call = 1; call <= 512; call++) {
            expect.equal("tick " + call, desk.tick(100), 100 * call);
        }
    }

    @Sentence(CALLS)
    static void endsAfterAsLongAsCanBe(Expect expect) {
        GrantDesk desk = Scenes.ruled(Texts.since(99));
        for (int call = 5; call <= 507; call++) {
            desk.tick(100);
        }
        expect.equal("call 508, ask", desk.ask(1, 0, 1, -1, 0), 2);
        expect.equal("call 509, the ticket's end", desk.ticket(2, 3), 50310);
        expect.equal("call 510, redeem", desk.redeem(0, 2, 0, 0), 1);
        expect.equal("call 511, the token's end", desk.token(1, 2), 50330);
        expect.equal("call 512, introspect", desk.introspect(1, 1, 0), 1);
    }

    @Sentence(CALLS)
    static void allThatThereMayBe(Expect expect) {
        GrantDesk desk = new GrantDesk();
        for (int i = 0; i < 12; i++) {
            expect.equal("key", desk.key(0), i + 1);
            expect.equal("register", desk.register(i + 1, 15), i);
            for (int rule = 1; rule <= 4; rule++) {
                expect.equal("rule", desk.rule(i + 1, i, 1 << rule - 1, Texts.EVER), rule);
            }
        }
        for (int ticket = 1; ticket <= 60; ticket++) {
            expect.equal("ask", desk.ask(1, ticket % 12, 15, -1, 0), ticket);
            expect.equal("redeem", desk.redeem(1, ticket, 0, ticket - 1), ticket);
            expect.equal("resources", desk.token(ticket, 3), Math.min(ticket, 12));
        }
        for (int r = 0; r < 12; r++) {
            expect.equal("introspect", desk.introspect(12 - r, 60, r), 15);
        }
    }

    @Sentence(CALLS)
    static void afterRefusedOnes(Expect expect) {
        GrantDesk desk = Scenes.ruled(Texts.is(2, 40));
        for (int call = 5; call <= 506; call++) {
            expect.refused("call " + call, Expect.UNSUPPORTED, () -> desk.push(0, 1, 2, 40, 9084));
        }
        expect.equal("call 507", desk.ticket(1, 0), 1);
        expect.equal("call 508", desk.ticket(1, 1), 0);
        expect.equal("call 509", desk.push(2, 1, 2, 40, 9085), 2);
        expect.equal("call 510", desk.redeem(2, 2, 0, 0), 1);
        expect.equal("call 511", desk.introspect(1, 1, 0), 1);
        expect.equal("call 512", desk.drop(2, 1), true);
    }
}
