@Section("Promise 1: A new object")
public final class NewObjectTest {
    private static final String NOTHING = "No keys, resources, tickets and tokens;";
    private static final int[] NUMBERS = Edges.and(Edges.inside(-1, 2), 12, 60, Integer.MIN_VALUE, Integer.MAX_VALUE);

    public static void main(String[] args) {
        Tests.run(NewObjectTest.class);
    }

    @Sentence(NOTHING)
    static void noKeys(Expect expect) {
        GrantDesk desk = new GrantDesk();
        for (int key : NUMBERS) {
            expect.equal("revoke " + key, desk.revoke(key), false);
            expect.refused("register by " + key, Expect.NO_SUCH, () -> desk.register(key, 1));
            expect.refused("remove by " + key, Expect.NO_SUCH, () -> desk.remove(key, 0));
        }
        expect.equal("the first key", desk.key(1), 1);
    }

    @Sentence(NOTHING)
    static void noResources(Expect expect) {
        GrantDesk desk = new GrantDesk();
        desk.key(0);
        for (int r : NUMBERS) {
            for (int what = 0; what <= 2; what++) {
                expect.equal("resource " + r, desk.resource(r, what), -1);
            }
            expect.refused("rescope " + r, Expect.NO_SUCH, () -> desk.rescope(1, r, 1));
            expect.refused("remove " + r, Expect.NO_SUCH, () -> desk.remove(1, r));
            expect.refused("rule " + r, Expect.NO_SUCH, () -> desk.rule(1, r, 1, Texts.EVER));
            expect.refused("clear " + r, Expect.NO_SUCH, () -> desk.clear(1, r));
            expect.refused("ask " + r, Expect.NO_SUCH, () -> desk.ask(1, r, 1, -1, 0));
            expect.refused("introspect " + r, Expect.NO_SUCH, () -> desk.introspect(1, 1, r));
        }
        expect.equal("the first resource", desk.register(1, 1), 0);
    }

    @Sentence(NOTHING)
    static void noTickets(Expect expect) {
        GrantDesk desk = new GrantDesk();
        desk.key(0);
        desk.register(1, 1);
        for (int ticket : NUMBERS) {
            for (int what = 0; what <= 3; what++) {
                expect.equal("ticket " + ticket, desk.ticket(ticket, what), -1);
            }
            expect.refused("push " + ticket, Expect.STATE, () -> Scenes.pushed(desk, 0, ticket, 0, 0));
            expect.refused("redeem " + ticket, Expect.STATE, () -> desk.redeem(0, ticket, 0, 0));
        }
        expect.equal("the first ticket", desk.ask(1, 0, 1, -1, 0), 1);
    }

    @Sentence(NOTHING)
    static void noTokens(Expect expect) {
        GrantDesk desk = Scenes.ruled(Texts.ever());
        for (int token : NUMBERS) {
            for (int what = 0; what <= 3; what++) {
                expect.equal("token " + token, desk.token(token, what), -1);
            }
            expect.equal("drop " + token, desk.drop(0, token), false);
            expect.equal("introspect " + token, desk.introspect(1, token, 0), 0);
            if (token != 0) {
                expect.refused("redeem with " + token, Expect.ARGUMENT, () -> desk.redeem(0, 1, 0, token));
            }
        }
        expect.equal("the first token", desk.redeem(0, 1, 0, 0), 1);
    }

    @Sentence("the clock is 0.")
    static void clockIsZero(Expect expect) {
        expect.equal("the clock", new GrantDesk().tick(0), 0);
        expect.equal("a ticket's end", Scenes.ruled(Texts.ever()).ticket(1, 3), 10);
    }

    @Sentence(NOTHING + " the clock is 0.")
    static void whateverAnotherObjectHas(Expect expect) {
        GrantDesk another = Scenes.later(Scenes.served(), 5);
        GrantDesk desk = new GrantDesk();
        expect.equal("no key", desk.revoke(1), false);
        expect.equal("no resource", desk.resource(0, 0), -1);
        expect.equal("no ticket", desk.ticket(1, 0), -1);
        expect.equal("no token", desk.token(1, 0), -1);
        expect.equal("the clock", desk.tick(0), 0);
        expect.equal("the other's clock", another.tick(0), 5);
    }
}
