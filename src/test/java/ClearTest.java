@Section("Promise 8: clear")
public final class ClearTest {
    private static final String CLEARED = "The resource has no rules any more: how many it had.";
    private static final String NO_SUCH = "NoSuchElementException: as for remove.";

    public static void main(String[] args) {
        Tests.run(ClearTest.class);
    }

    @Sentence(CLEARED)
    static void answersHowManyItHad(Expect expect) {
        for (int rules = 0; rules <= 4; rules++) {
            GrantDesk desk = Scenes.owners();
            for (int rule = 0; rule < rules; rule++) {
                desk.rule(1, 0, 1, Texts.EVER);
            }
            expect.equal("clear", desk.clear(1, 0), rules);
            expect.equal("none now", desk.resource(0, 2), 0);
            expect.equal("clear again", desk.clear(1, 0), 0);
        }
    }

    @Sentence(CLEARED)
    static void nothingIsGrantedOrOpen(Expect expect) {
        GrantDesk desk = Scenes.served();
        desk.clear(1, 0);
        expect.refused("redeem", Expect.UNSUPPORTED, () -> desk.redeem(0, 1, 15, 0));
    }

    @Sentence(CLEARED)
    static void aNewRuleIsTheOnlyOne(Expect expect) {
        GrantDesk desk = Scenes.served();
        desk.clear(1, 0);
        expect.equal("rule", desk.rule(1, 0, 2, Texts.EVER), 1);
        expect.equal("redeem", desk.redeem(0, 1, 15, 0), 2);
        expect.equal("by it alone", desk.introspect(1, 2, 0), 2);
    }

    @Sentence(CLEARED)
    static void theRestStays(Expect expect) {
        GrantDesk desk = Scenes.served();
        desk.rule(1, 2, 1, Texts.EVER);
        desk.clear(1, 0);
        expect.equal("the resource", desk.resource(0, 1), 7);
        expect.equal("another's rules", desk.resource(2, 2), 1);
        expect.equal("the ticket", desk.ticket(1, 0), 1);
        expect.equal("the token", desk.introspect(1, 1, 0), 4);
    }

    @Sentence(NO_SUCH)
    static void keyless(Expect expect) {
        expect.keyless((desk, key) -> desk.clear(key, 0));
    }

    @Sentence(NO_SUCH)
    static void noResourceOfTheOwner(Expect expect) {
        expect.notOfTheOwner((desk, r) -> desk.clear(1, r));
        expect.refusedWhole("by another owner", Expect.NO_SUCH, Scenes::served, desk -> desk.clear(2, 0));
    }
}
