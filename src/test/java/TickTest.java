@Section("Promise 14: tick")
public final class TickTest {
    private static final String GOES_ON = "The clock goes on by n: it.";
    private static final String ARGUMENT = "IllegalArgumentException: n is not 0 .. 100.";

    public static void main(String[] args) {
        Tests.run(TickTest.class);
    }

    @Sentence(GOES_ON)
    static void answersTheClock(Expect expect) {
        GrantDesk desk = new GrantDesk();
        expect.equal("by 1", desk.tick(1), 1);
        expect.equal("by 7", desk.tick(7), 8);
        expect.equal("by 0", desk.tick(0), 8);
        expect.equal("by 100", desk.tick(100), 108);
    }

    @Sentence(GOES_ON)
    static void byTheMostInEveryCall(Expect expect) {
        GrantDesk desk = new GrantDesk();
        for (int call = 1; call <= 512; call++) {
            expect.equal("call " + call, desk.tick(100), 100 * call);
        }
    }

    @Sentence(GOES_ON)
    static void endsFarOn(Expect expect) {
        GrantDesk desk = Scenes.ruled(Texts.since(99));
        for (int call = 1; call <= 480; call++) {
            desk.tick(100);
        }
        int ticket = desk.ask(1, 0, 1, -1, 0);
        expect.equal("a ticket's end", desk.ticket(ticket, 3), 48010);
        expect.equal("a token", desk.redeem(0, ticket, 0, 0), 1);
        expect.equal("a token's end", desk.token(1, 2), 48030);
    }

    @Sentence(ARGUMENT)
    static void leastAndGreatest(Expect expect) {
        expect.equal("0", Scenes.served().tick(0), 0);
        expect.equal("100", Scenes.served().tick(100), 100);
        expect.unchanged("tick(0)", Scenes::served, desk -> desk.tick(0));
    }

    @Sentence(ARGUMENT)
    static void outside(Expect expect) {
        expect.refusedFor(Edges.outside(0, 100), "tick", Expect.ARGUMENT, Scenes::served, GrantDesk::tick);
        expect.refusedFor(Edges.outside(0, 100), "tick", Expect.ARGUMENT, GrantDesk::new, GrantDesk::tick);
    }
}
