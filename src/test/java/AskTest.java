@Section("Promise 9: ask")
public final class AskTest {
    private static final String ASKED = "A new ticket, bound to no client, without claims, for the scopes of"
            + " resource r, and, if other is not -1, for those of that one: its number.";
    private static final String NO_SUCH = "NoSuchElementException: KEYLESS, or r, or other (if it is not -1),"
            + " is no registered resource of the key's owner.";
    private static final String ARGUMENT = "IllegalArgumentException: other is r, scopes or (if other is not -1) more"
            + " are not 1 .. 15, or not all of them are scopes of their resource.";
    private static final String STATE = "IllegalStateException: there were 60 tickets.";

    public static void main(String[] args) {
        Tests.run(AskTest.class);
    }

    @Sentence(ASKED)
    static void numbersRiseByOne(Expect expect) {
        GrantDesk desk = Scenes.owners();
        expect.equal("the first", desk.ask(1, 0, 3, -1, 0), 1);
        expect.equal("for two", desk.ask(1, 0, 7, 2, 15), 2);
        expect.equal("of another owner", desk.ask(2, 1, 2, -1, 0), 3);
        desk.remove(2, 1);
        expect.equal("whatever became of it", desk.ask(1, 2, 8, 0, 1), 4);
    }

    @Sentence(ASKED)
    static void boundToNoClientAndWithoutClaims(Expect expect) {
        GrantDesk desk = Scenes.bound();
        int ticket = desk.ask(1, 0, 3, -1, 0);
        expect.equal("live", desk.ticket(ticket, 0), 1);
        expect.equal("no client", desk.ticket(ticket, 1), 0);
        expect.equal("no claims", desk.ticket(ticket, 2), 0);
    }

    @Sentence(ASKED)
    static void forTheScopesOfOne(Expect expect) {
        GrantDesk desk = Scenes.generous();
        int token = desk.redeem(0, desk.ask(1, 2, 4, -1, 7), 0, 0);
        expect.equal("its scopes", desk.introspect(1, token, 2), 4);
        expect.equal("nothing else", desk.token(token, 3), 1);
    }

    @Sentence(ASKED)
    static void forTheScopesOfTwo(Expect expect) {
        GrantDesk desk = Scenes.generous();
        int token = desk.redeem(0, desk.ask(1, 2, 9, 0, 3), 0, 0);
        expect.equal("the first's scopes", desk.introspect(1, token, 2), 9);
        expect.equal("the other's scopes", desk.introspect(1, token, 0), 3);
        expect.equal("nothing else", desk.token(token, 3), 2);
    }

    @Sentence(NO_SUCH)
    static void keyless(Expect expect) {
        expect.keyless((desk, key) -> desk.ask(key, 0, 1, -1, 0));
        expect.keyless((desk, key) -> desk.ask(key, 0, 1, 2, 1));
    }

    @Sentence(NO_SUCH)
    static void noResourceOfTheOwner(Expect expect) {
        expect.notOfTheOwner((desk, r) -> desk.ask(1, r, 1, -1, 0));
        expect.notOfTheOwner((desk, r) -> desk.ask(1, r, 1, 0, 1));
        expect.refusedWhole("by another owner", Expect.NO_SUCH, Scenes::served, desk -> desk.ask(2, 0, 1, -1, 0));
    }

    @Sentence(NO_SUCH)
    static void noOtherResourceOfTheOwner(Expect expect) {
        int[] wrong = Edges.and(Edges.without(Scenes.NOT_OF_KEY_1, -1), -2);
        expect.refusedFor(wrong, "other", Expect.NO_SUCH, Scenes::served, (desk, other) -> desk.ask(1, 0, 1, other, 1));
    }

    @Sentence(NO_SUCH)
    static void rIsMinusOneLikeOther(Expect expect) {
        expect.refusedWhole("r is -1, like other", Expect.NO_SUCH, Scenes::served, desk -> desk.ask(1, -1, 1, -1, 1));
    }

    @Sentence(ARGUMENT)
    static void otherIsR(Expect expect) {
        expect.refusedWhole("the same scopes", Expect.ARGUMENT, Scenes::served, desk -> desk.ask(1, 0, 1, 0, 1));
        expect.refusedWhole("other scopes", Expect.ARGUMENT, Scenes::served, desk -> desk.ask(1, 2, 8, 2, 4));
    }

    @Sentence(ARGUMENT)
    static void leastAndGreatestScopes(Expect expect) {
        GrantDesk desk = Scenes.generous();
        for (int scopes : new int[] {1, 15}) {
            int token = desk.redeem(0, desk.ask(1, 2, scopes, -1, 0), 0, 0);
            expect.equal("scopes", desk.introspect(1, token, 2), scopes);
            int another = desk.redeem(0, desk.ask(1, 0, 1, 2, scopes), 0, 0);
            expect.equal("more", desk.introspect(1, another, 2), scopes);
        }
    }

    @Sentence(ARGUMENT)
    static void scopesOutside(Expect expect) {
        expect.refusedFor(Edges.outside(1, 15), "scopes", Expect.ARGUMENT, Scenes::served,
                (desk, scopes) -> desk.ask(1, 2, scopes, -1, 0));
        expect.refusedFor(Edges.outside(1, 15), "scopes", Expect.ARGUMENT, Scenes::served,
                (desk, scopes) -> desk.ask(1, 2, scopes, 0, 1));
    }

    @Sentence(ARGUMENT)
    static void moreOutside(Expect expect) {
        expect.refusedFor(Edges.outside(1, 15), "more", Expect.ARGUMENT, Scenes::served,
                (desk, more) -> desk.ask(1, 0, 1, 2, more));
    }

    @Sentence(ARGUMENT)
    static void moreIsNotLookedAtWithoutOther(Expect expect) {
        for (int more : Edges.and(Edges.outside(1, 15), 1, 8, 15)) {
            expect.equal("more " + more, Scenes.owners().ask(1, 0, 1, -1, more), 1);
        }
    }

    @Sentence(ARGUMENT)
    static void notAllAreScopesOfTheirResource(Expect expect) {
        expect.equal("all that it has", Scenes.served().ask(1, 0, 7, -1, 0), 4);
        expect.refusedWhole("one that it lacks", Expect.ARGUMENT, Scenes::served, desk -> desk.ask(1, 0, 8, -1, 0));
        expect.refusedWhole("some that it has", Expect.ARGUMENT, Scenes::served, desk -> desk.ask(1, 0, 15, -1, 0));
        expect.refusedWhole("that the other has", Expect.ARGUMENT, Scenes::served, desk -> desk.ask(1, 0, 8, 2, 8));
        expect.equal("all that the other has", Scenes.served().ask(1, 2, 8, 0, 7), 4);
        expect.refusedWhole("one that it lacks", Expect.ARGUMENT, Scenes::served, desk -> desk.ask(1, 2, 8, 0, 8));
        expect.refusedWhole("some that it has", Expect.ARGUMENT, Scenes::served, desk -> desk.ask(1, 2, 8, 0, 9));
    }

    @Sentence(STATE)
    static void thereIsASixtieth(Expect expect) {
        GrantDesk desk = Scenes.crowded(59, Texts.ever());
        expect.equal("the sixtieth", desk.ask(1, 0, 1, -1, 0), 60);
        expect.equal("is live", desk.ticket(60, 0), 1);
        expect.equal("can be redeemed", desk.redeem(0, 60, 0, 0), 1);
    }

    @Sentence(STATE)
    static void thereIsNoSixtyFirst(Expect expect) {
        expect.refusedWhole("the 61st", Expect.STATE, () -> Scenes.crowded(60, Texts.ever()),
                desk -> desk.ask(1, 0, 1, -1, 0));
        GrantDesk desk = Scenes.crowded(60, Texts.ever());
        expect.refused("the 61st", Expect.STATE, () -> desk.ask(1, 0, 1, -1, 0));
        expect.equal("it is none", desk.ticket(61, 0), -1);
    }

    @Sentence(STATE)
    static void usedAndEndedOnesWereThere(Expect expect) {
        GrantDesk desk = Scenes.crowded(60, Texts.ever());
        desk.redeem(0, 1, 0, 0);
        expect.refused("one is used", Expect.STATE, () -> desk.ask(1, 0, 1, -1, 0));
        desk.tick(10);
        expect.refused("the end of all came", Expect.STATE, () -> desk.ask(1, 0, 1, -1, 0));
    }

    @Sentence(STATE)
    static void rotatedOnesWereThere(Expect expect) {
        GrantDesk desk = Scenes.crowded(59, Texts.is(0, 0));
        expect.equal("rotated to the sixtieth", desk.redeem(0, 1, 0, 0), -60);
        expect.refused("the 61st", Expect.STATE, () -> desk.ask(1, 0, 1, -1, 0));
    }

    /** As owners, with 60 tickets. */
    private static GrantDesk sixty() {
        GrantDesk desk = Scenes.owners();
        for (int ticket = 1; ticket <= 60; ticket++) {
            desk.ask(1, 0, 1, -1, 0);
        }
        return desk;
    }

    @Sentence(NO_SUCH + " " + ARGUMENT + " " + STATE)
    static void theFirstThatIsDueForOne(Expect expect) {
        new Mixture(expect, (desk, a) -> desk.ask(a[0], a[1], a[2], -1, 0), 1, 0, 1)
                .lists(Expect.NO_SUCH).wrong(0, 0, 3, 4).wrong(1, -1, 1, 3, 4)
                .lists(Expect.ARGUMENT).wrong(2, 0, 8, 16)
                .lists(Expect.STATE)
                .in(Scenes::served)
                .inRefusing(AskTest::sixty, Expect.STATE);
    }

    @Sentence(NO_SUCH + " " + ARGUMENT + " " + STATE)
    static void theFirstThatIsDueForTwo(Expect expect) {
        new Mixture(expect, (desk, a) -> desk.ask(a[0], a[1], a[2], a[3], a[4]), 1, 2, 1, 0, 1)
                .lists(Expect.NO_SUCH).wrong(0, 0, 3).wrong(1, -1, 1, 3).wrong(3, -2, 1, 3)
                .lists(Expect.ARGUMENT).wrong(2, 0, 16).wrong(3, 2).wrong(4, 0, 8)
                .lists(Expect.STATE)
                .in(Scenes::served)
                .inRefusing(AskTest::sixty, Expect.STATE);
    }
}
