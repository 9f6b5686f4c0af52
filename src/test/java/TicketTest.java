@Section("Promise 16: ticket")
public final class TicketTest {
    private static final String STATE =
            "Of a ticket: what = 0: 1 it is LIVE, 2 USED, 3 its end came (and it was not USED);";
    private static final String CLIENT = "1 its client plus 1, or 0;";
    private static final String KINDS = "2 the kinds of its claims as bits;";
    private static final String END = "3 its end.";
    private static final String NONE = "-1 when there is none, or what is not 0 .. 3.";

    public static void main(String[] args) {
        Tests.run(TicketTest.class);
    }

    @Sentence(STATE)
    static void liveJustBeforeItsEndAndEndedAtIt(Expect expect) {
        expect.equal("at once", Scenes.served().ticket(1, 0), 1);
        expect.equal("just before", Scenes.later(Scenes.served(), 9).ticket(1, 0), 1);
        expect.equal("at it", Scenes.later(Scenes.served(), 10).ticket(1, 0), 3);
        expect.equal("after it", Scenes.later(Scenes.served(), 11).ticket(1, 0), 3);
        expect.equal("long after it", Scenes.later(Scenes.served(), 100).ticket(1, 0), 3);
    }

    @Sentence(STATE)
    static void usedBeforeAndAfterItsEnd(Expect expect) {
        for (int ticks : new int[] {0, 9, 10, 100}) {
            GrantDesk desk = Scenes.later(Scenes.bound(), ticks);
            expect.equal("redeemed", desk.ticket(2, 0), 2);
            expect.equal("rotated", desk.ticket(1, 0), 2);
        }
    }

    @Sentence(STATE)
    static void usedByARefusedRedeem(Expect expect) {
        GrantDesk desk = Scenes.served();
        desk.clear(1, 0);
        expect.refused("redeem", Expect.UNSUPPORTED, () -> desk.redeem(0, 1, 0, 0));
        expect.equal("used", desk.ticket(1, 0), 2);
    }

    @Sentence(CLIENT)
    static void noClientYet(Expect expect) {
        expect.equal("no client", Scenes.served().ticket(1, 1), 0);
        expect.equal("nor at its end", Scenes.later(Scenes.served(), 10).ticket(1, 1), 0);
    }

    @Sentence(CLIENT)
    static void leastAndGreatestClient(Expect expect) {
        for (int client = 0; client <= 2; client++) {
            GrantDesk desk = Scenes.served();
            Scenes.pushed(desk, client, 1, 2, 40);
            expect.equal("the old one's", desk.ticket(1, 1), client + 1);
            expect.equal("the new one's", desk.ticket(4, 1), client + 1);
        }
    }

    @Sentence(KINDS)
    static void noneOneAndAllKinds(Expect expect) {
        GrantDesk desk = Scenes.served();
        expect.equal("none", desk.ticket(1, 2), 0);
        int ticket = 1;
        for (int kind = 11; kind >= 0; kind--) {
            ticket = Scenes.pushed(desk, 0, ticket, kind, 0);
            expect.equal("down to " + kind, desk.ticket(ticket, 2), 4096 - (1 << kind));
        }
        expect.equal("the first one's stay", desk.ticket(1, 2), 0);
    }

    @Sentence(KINDS)
    static void eachKindAlone(Expect expect) {
        for (int kind = 0; kind <= 11; kind++) {
            GrantDesk desk = Scenes.served();
            expect.equal("kind " + kind, desk.ticket(Scenes.pushed(desk, 0, 1, kind, 99), 2), 1 << kind);
        }
    }

    @Sentence(END)
    static void tenTicksAfterItWasMade(Expect expect) {
        GrantDesk desk = Scenes.later(Scenes.served(), 4);
        int pushed = Scenes.pushed(desk, 0, 1, 2, 40);
        int asked = desk.ask(1, 0, 1, -1, 0);
        desk.tick(100);
        expect.equal("of the old one", desk.ticket(1, 3), 10);
        expect.equal("of one pushed", desk.ticket(pushed, 3), 14);
        expect.equal("of one asked", desk.ticket(asked, 3), 14);
    }

    @Sentence(END)
    static void changesNothing(Expect expect) {
        expect.unchanged("ticket", Scenes::served, desk -> {
            for (int what = -1; what <= 4; what++) {
                desk.ticket(1, what);
                desk.ticket(4, what);
            }
        });
    }

    @Sentence(NONE)
    static void thereIsNoSuchTicket(Expect expect) {
        for (int ticket : Edges.and(Edges.outside(1, 3), 60, 61)) {
            for (int what = 0; what <= 3; what++) {
                expect.equal("ticket " + ticket, Scenes.served().ticket(ticket, what), -1);
                expect.equal("in a new object", new GrantDesk().ticket(ticket, what), -1);
            }
        }
    }

    @Sentence(NONE)
    static void theSixtiethIsTheLast(Expect expect) {
        GrantDesk desk = Scenes.crowded(60, Texts.ever());
        expect.equal("the 60th", desk.ticket(60, 0), 1);
        expect.equal("the 61st", desk.ticket(61, 0), -1);
    }

    @Sentence(NONE)
    static void whatOutside(Expect expect) {
        for (int what : Edges.outside(0, 3)) {
            expect.equal("what " + what, Scenes.served().ticket(1, what), -1);
            expect.equal("what " + what + " of none", Scenes.served().ticket(4, what), -1);
        }
    }
}
