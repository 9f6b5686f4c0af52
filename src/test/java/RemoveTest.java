@Section("Promise 6: remove")
public final class RemoveTest {
    private static final String REMOVED = "The resource is taken out: how many rules it had (they go).";
    private static final String NO_SUCH =
            "NoSuchElementException: KEYLESS, or there is no registered resource r of the key's owner.";

    public static void main(String[] args) {
        Tests.run(RemoveTest.class);
    }

    @Sentence(REMOVED)
    static void answersHowManyRulesItHad(Expect expect) {
        for (int rules = 0; rules <= 4; rules++) {
            GrantDesk desk = Scenes.owners();
            for (int rule = 0; rule < rules; rule++) {
                desk.rule(1, 0, 1, Texts.EVER);
            }
            expect.equal("remove", desk.remove(1, 0), rules);
        }
    }

    @Sentence(REMOVED)
    static void itIsNoLongerThere(Expect expect) {
        GrantDesk desk = Scenes.served();
        desk.remove(1, 0);
        for (int what = 0; what <= 2; what++) {
            expect.equal("resource", desk.resource(0, what), -1);
        }
        expect.refused("rescope", Expect.NO_SUCH, () -> desk.rescope(1, 0, 1));
        expect.refused("rule", Expect.NO_SUCH, () -> desk.rule(1, 0, 1, Texts.EVER));
        expect.refused("clear", Expect.NO_SUCH, () -> desk.clear(1, 0));
        expect.refused("ask", Expect.NO_SUCH, () -> desk.ask(1, 0, 1, -1, 0));
        expect.refused("ask for it as the other", Expect.NO_SUCH, () -> desk.ask(1, 2, 1, 0, 1));
        expect.refused("introspect", Expect.NO_SUCH, () -> desk.introspect(1, 1, 0));
    }

    @Sentence(REMOVED)
    static void itsRulesGo(Expect expect) {
        GrantDesk desk = Scenes.served();
        desk.remove(1, 0);
        expect.refused("neither granted nor open", Expect.UNSUPPORTED, () -> desk.redeem(0, 1, 15, 0));
    }

    @Sentence(REMOVED)
    static void theRestStays(Expect expect) {
        GrantDesk desk = Scenes.served();
        desk.rule(1, 2, 1, Texts.EVER);
        desk.remove(1, 0);
        expect.equal("another resource", desk.resource(2, 1), 15);
        expect.equal("its rule", desk.resource(2, 2), 1);
        expect.equal("the ticket", desk.ticket(1, 0), 1);
        expect.equal("the token", desk.token(1, 0), 1);
        expect.equal("the resources of the token", desk.token(1, 3), 1);
    }

    @Sentence(NO_SUCH)
    static void keyless(Expect expect) {
        expect.keyless((desk, key) -> desk.remove(key, 0));
    }

    @Sentence(NO_SUCH)
    static void noResourceOfTheOwner(Expect expect) {
        expect.notOfTheOwner((desk, r) -> desk.remove(1, r));
        expect.refusedWhole("by another owner", Expect.NO_SUCH, Scenes::served, desk -> desk.remove(2, 0));
    }

    @Sentence(NO_SUCH)
    static void oneTakenOutBefore(Expect expect) {
        GrantDesk desk = Scenes.served();
        desk.remove(1, 0);
        expect.refused("again", Expect.NO_SUCH, () -> desk.remove(1, 0));
        expect.equal("the next number", desk.register(1, 1), 4);
        expect.refused("with a new one there", Expect.NO_SUCH, () -> desk.remove(1, 0));
    }
}
