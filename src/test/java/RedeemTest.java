/** What is asked, granted and answered; what is refused stands in RedeemRefusedTest. */
@Section("Promise 11: redeem")
public final class RedeemTest {
    private static final String ACCEPTED = "The ticket is accepted from the client.";
    private static final String ASKED = "ASKED of each of its permissions whose resource is still registered: its"
            + " scopes, and those of the scopes given that the resource has.";
    private static final String GRANTED = "GRANTED: of those asked, the scopes of the resource's rules that are true on"
            + " the ticket's claims and the clock.";
    private static final String GIVEN = "When something is granted, the ticket is USED, and there is a new token of the"
            + " client with that; and, if the token given is not 0, with what that one has of resources that are still"
            + " registered (only scopes that they have), too: its number is answered.";
    private static final String STAYS_GOOD = "(That one stays GOOD.)";
    private static final String OPEN = "When nothing is granted, but a rule of one of the resources is OPEN that has"
            + " one of the scopes asked of it: the ticket is rotated, and minus the new number is answered.";

    public static void main(String[] args) {
        Tests.run(RedeemTest.class);
    }

    /** As generous; token 2 of client 0 has scopes 6 of resource 0, 2 of resource 1 and 15 of resource 2. */
    private static GrantDesk collected() {
        GrantDesk desk = Scenes.generous();
        desk.redeem(0, desk.ask(1, 0, 6, 2, 15), 0, 0);
        desk.redeem(0, desk.ask(2, 1, 2, -1, 0), 0, 1);
        desk.drop(0, 1);
        return desk;
    }

    /** The number of a token for one scope of resource 2 and what token 2 has. */
    private static int upgraded(GrantDesk desk) {
        return desk.redeem(0, desk.ask(1, 2, 8, -1, 0), 0, 2);
    }

    @Sentence(ACCEPTED)
    static void anUnboundOneIsBound(Expect expect) {
        for (int client = 0; client <= 2; client++) {
            GrantDesk desk = Scenes.ruled(Texts.ever());
            expect.equal("redeem", desk.redeem(client, 1, 0, 0), 1);
            expect.equal("its client", desk.ticket(1, 1), client + 1);
            expect.equal("its end", desk.ticket(1, 3), 10);
        }
    }

    @Sentence(ACCEPTED)
    static void aBoundOneFromItsClient(Expect expect) {
        GrantDesk desk = Scenes.bound();
        expect.equal("redeem", desk.redeem(1, 4, 0, 0), 2);
        expect.equal("its client", desk.ticket(4, 1), 2);
    }

    @Sentence(ASKED)
    static void thePermissionsScopes(Expect expect) {
        GrantDesk desk = Scenes.generous();
        desk.redeem(0, desk.ask(1, 0, 5, 2, 8), 0, 0);
        expect.equal("of the first", desk.introspect(1, 1, 0), 5);
        expect.equal("of the other", desk.introspect(1, 1, 2), 8);
    }

    @Sentence(ASKED)
    static void theScopesGivenThatTheResourceHas(Expect expect) {
        GrantDesk desk = Scenes.generous();
        desk.redeem(0, desk.ask(1, 0, 1, 2, 1), 12, 0);
        desk.rescope(1, 0, 15);
        expect.equal("of the first, which lacks 8", desk.introspect(1, 1, 0), 5);
        expect.equal("of the other", desk.introspect(1, 1, 2), 13);
        expect.equal("of none without a permission", desk.introspect(2, 1, 1), 0);
    }

    @Sentence(ASKED)
    static void scopesThatARescopeTookFromTheResource(Expect expect) {
        GrantDesk desk = Scenes.generous();
        int ticket = desk.ask(1, 2, 8, -1, 0);
        desk.rescope(1, 2, 6);
        desk.redeem(0, ticket, 3, 0);
        desk.rescope(1, 2, 15);
        expect.equal("the permission's, but not those given", desk.introspect(1, 1, 2), 10);
    }

    @Sentence(ASKED)
    static void nothingOfAResourceThatIsTakenOut(Expect expect) {
        GrantDesk desk = Scenes.generous();
        int two = desk.ask(1, 0, 7, 2, 15);
        int one = desk.ask(1, 0, 7, -1, 0);
        desk.remove(1, 0);
        expect.equal("the other is left", desk.redeem(0, two, 0, 0), 1);
        expect.equal("alone", desk.token(1, 3), 1);
        expect.refused("none is left", Expect.UNSUPPORTED, () -> desk.redeem(0, one, 15, 0));
    }

    @Sentence(GRANTED)
    static void ofThoseAskedAlone(Expect expect) {
        GrantDesk desk = Scenes.owners();
        desk.rule(1, 2, 6, Texts.EVER);
        desk.redeem(0, desk.ask(1, 2, 3, -1, 0), 8, 0);
        expect.equal("asked 11, ruled 6", desk.introspect(1, 1, 2), 2);
    }

    @Sentence(GRANTED)
    static void theRulesThatAreTrueAlone(Expect expect) {
        GrantDesk desk = Scenes.owners();
        desk.rule(1, 2, 1, Texts.EVER);
        desk.rule(1, 2, 2, Texts.text(Texts.not(Texts.ever())));
        desk.rule(1, 2, 4, Texts.text(Texts.is(0, 0)));
        desk.rule(1, 2, 8, Texts.EVER);
        expect.equal("redeem", desk.redeem(0, desk.ask(1, 2, 15, -1, 0), 0, 0), 1);
        expect.equal("neither the false nor the open one", desk.introspect(1, 1, 2), 9);
    }

    @Sentence(GRANTED)
    static void onTheTicketsOwnClaims(Expect expect) {
        GrantDesk desk = Scenes.ruled(Texts.is(3, 8));
        int without = desk.ask(1, 0, 1, -1, 0);
        int with = Scenes.pushed(desk, 0, 1, 3, 8);
        expect.equal("without the claim", desk.redeem(0, without, 0, 0), -4);
        expect.equal("with it", desk.redeem(0, with, 0, 0), 1);
    }

    @Sentence(GRANTED)
    static void onTheClockOfThisCall(Expect expect) {
        GrantDesk late = Scenes.later(Scenes.ruled(Texts.since(5)), 5);
        expect.equal("at 5", late.redeem(0, 1, 0, 0), 1);
        GrantDesk early = Scenes.later(Scenes.ruled(Texts.since(5)), 4);
        expect.refused("at 4", Expect.UNSUPPORTED, () -> early.redeem(0, 1, 0, 0));
    }

    @Sentence(GRANTED)
    static void ofEachResourceByItsOwnRules(Expect expect) {
        GrantDesk desk = Scenes.owners();
        desk.rule(1, 0, 3, Texts.EVER);
        desk.rule(1, 2, 12, Texts.EVER);
        desk.rule(2, 1, 15, Texts.EVER);
        desk.redeem(0, desk.ask(1, 0, 6, 2, 6), 0, 0);
        expect.equal("of the first", desk.introspect(1, 1, 0), 2);
        expect.equal("of the other", desk.introspect(1, 1, 2), 4);
        expect.equal("of no third", desk.token(1, 3), 2);
    }

    @Sentence(GRANTED)
    static void nothingOfAResourceWithoutRules(Expect expect) {
        GrantDesk desk = Scenes.owners();
        desk.rule(1, 0, 1, Texts.EVER);
        expect.equal("redeem", desk.redeem(0, desk.ask(1, 0, 7, 2, 15), 0, 0), 1);
        expect.equal("the other has none", desk.token(1, 3), 1);
    }

    @Sentence(GIVEN)
    static void theTicketIsUsed(Expect expect) {
        GrantDesk desk = Scenes.ruled(Texts.ever());
        desk.redeem(0, 1, 0, 0);
        expect.equal("used", desk.ticket(1, 0), 2);
        expect.equal("not rotated", desk.ticket(2, 0), -1);
        expect.refused("not again", Expect.STATE, () -> desk.redeem(0, 1, 0, 0));
    }

    @Sentence(GIVEN)
    static void aNewTokenOfTheClient(Expect expect) {
        GrantDesk desk = Scenes.later(Scenes.served(), 5);
        expect.equal("its number", desk.redeem(2, 1, 4, 0), 2);
        expect.equal("good", desk.token(2, 0), 1);
        expect.equal("its client", desk.token(2, 1), 2);
        expect.equal("its end", desk.token(2, 2), 35);
        expect.equal("its resources", desk.token(2, 3), 1);
    }

    @Sentence(GIVEN)
    static void somethingGrantedGoesBeforeWhatIsOpen(Expect expect) {
        GrantDesk desk = Scenes.owners();
        desk.rule(1, 0, 1, Texts.text(Texts.is(0, 0)));
        desk.rule(1, 2, 1, Texts.EVER);
        expect.equal("a token", desk.redeem(0, desk.ask(1, 0, 1, 2, 1), 0, 0), 1);
        expect.equal("without the open one", desk.introspect(1, 1, 0), 0);
    }

    @Sentence(GIVEN)
    static void withoutATokenNothingIsAdded(Expect expect) {
        GrantDesk desk = collected();
        int token = desk.redeem(0, desk.ask(1, 2, 8, -1, 0), 0, 0);
        expect.equal("its resources", desk.token(token, 3), 1);
        expect.equal("its scopes", desk.introspect(1, token, 2), 8);
    }

    @Sentence(GIVEN)
    static void withWhatTheTokenGivenHas(Expect expect) {
        GrantDesk desk = collected();
        int token = upgraded(desk);
        expect.equal("its number", token, 3);
        expect.equal("granted and held", desk.introspect(1, token, 2), 15);
        expect.equal("held", desk.introspect(1, token, 0), 6);
        expect.equal("held of another owner", desk.introspect(2, token, 1), 2);
        expect.equal("its resources", desk.token(token, 3), 3);
    }

    @Sentence(GIVEN)
    static void joinedScopeByScope(Expect expect) {
        GrantDesk desk = collected();
        int token = desk.redeem(0, desk.ask(1, 0, 3, -1, 0), 0, 2);
        expect.equal("granted 3, held 6", desk.introspect(1, token, 0), 7);
    }

    @Sentence(GIVEN)
    static void notOfAResourceThatIsTakenOut(Expect expect) {
        GrantDesk desk = collected();
        desk.remove(1, 0);
        int token = upgraded(desk);
        expect.equal("its resources", desk.token(token, 3), 2);
    }

    @Sentence(GIVEN)
    static void onlyScopesThatTheResourceHas(Expect expect) {
        GrantDesk desk = collected();
        desk.rescope(1, 0, 3);
        int token = upgraded(desk);
        desk.rescope(1, 0, 15);
        expect.equal("held 6, had 3", desk.introspect(1, token, 0), 2);
        desk.rescope(1, 0, 8);
        int another = upgraded(desk);
        desk.rescope(1, 0, 15);
        expect.equal("held 6, had 8", desk.introspect(1, another, 0), 0);
        expect.equal("not counted", desk.token(another, 3), 2);
    }

    @Sentence(GIVEN)
    static void theTokensOwnEndIsNew(Expect expect) {
        GrantDesk desk = Scenes.later(collected(), 29);
        int token = upgraded(desk);
        expect.equal("its end", desk.token(token, 2), 59);
        desk.tick(1);
        expect.equal("held beyond the other's end", desk.introspect(1, token, 0), 6);
    }

    @Sentence(STAYS_GOOD)
    static void theTokenGivenStaysAsItWas(Expect expect) {
        GrantDesk desk = Scenes.later(collected(), 3);
        desk.redeem(0, desk.ask(1, 0, 1, -1, 0), 0, 2);
        expect.equal("good", desk.token(2, 0), 1);
        expect.equal("its end", desk.token(2, 2), 30);
        expect.equal("its scopes", desk.introspect(1, 2, 0), 6);
        expect.equal("can be given again", upgraded(desk), 4);
    }

    @Sentence(OPEN)
    static void theTicketIsRotated(Expect expect) {
        GrantDesk desk = Scenes.ruled(Texts.all(Texts.is(0, 5), Texts.is(1, 6)));
        int ticket = Scenes.pushed(desk, 1, 1, 0, 5);
        desk.tick(3);
        expect.equal("minus the new number", desk.redeem(1, ticket, 0, 0), -3);
        expect.equal("the old one is used", desk.ticket(2, 0), 2);
        expect.equal("the new one is live", desk.ticket(3, 0), 1);
        expect.equal("its client", desk.ticket(3, 1), 2);
        expect.equal("its claims", desk.ticket(3, 2), 1);
        expect.equal("its end", desk.ticket(3, 3), 13);
        expect.equal("no token", desk.token(1, 0), -1);
        expect.equal("granted at last", desk.redeem(1, Scenes.pushed(desk, 1, 3, 1, 6), 0, 0), 1);
        expect.equal("its permission", desk.introspect(1, 1, 0), 1);
    }

    @Sentence(OPEN)
    static void anUnboundOneIsBoundAndRotated(Expect expect) {
        GrantDesk desk = Scenes.ruled(Texts.is(0, 5));
        expect.equal("minus the new number", desk.redeem(2, 1, 0, 0), -2);
        expect.equal("the old one's client", desk.ticket(1, 1), 3);
        expect.equal("the new one's client", desk.ticket(2, 1), 3);
        expect.refused("for no other", Expect.STATE, () -> desk.redeem(0, 2, 0, 0));
    }

    @Sentence(OPEN)
    static void theScopesGivenDoNotStay(Expect expect) {
        GrantDesk desk = Scenes.owners();
        desk.rule(1, 0, 2, Texts.text(Texts.is(0, 5)));
        int ticket = desk.ask(1, 0, 1, -1, 0);
        expect.equal("open for the scope given", desk.redeem(0, ticket, 2, 0), -2);
        expect.refused("no longer given", Expect.UNSUPPORTED, () -> desk.redeem(0, 2, 0, 0));
    }

    @Sentence(OPEN)
    static void theTokenGivenDoesNotMatter(Expect expect) {
        GrantDesk desk = Scenes.served();
        expect.equal("minus the new number", desk.redeem(0, 3, 0, 1), -4);
        expect.equal("good", desk.token(1, 0), 1);
        expect.equal("no new one", desk.token(2, 0), -1);
    }

    @Sentence(OPEN)
    static void anyOpenRuleOfEitherResource(Expect expect) {
        GrantDesk desk = Scenes.owners();
        desk.rule(1, 0, 1, Texts.text(Texts.since(9)));
        desk.rule(1, 2, 1, Texts.text(Texts.since(9)));
        desk.rule(1, 2, 2, Texts.text(Texts.is(0, 5)));
        expect.equal("the other's", desk.redeem(0, desk.ask(1, 0, 1, 2, 2), 0, 0), -2);
        expect.equal("the first's", desk.redeem(0, desk.ask(1, 2, 2, 0, 1), 0, 0), -4);
    }

    @Sentence(OPEN)
    static void openForOneOfTheScopesAsked(Expect expect) {
        GrantDesk desk = Scenes.owners();
        desk.rule(1, 2, 12, Texts.text(Texts.is(0, 5)));
        expect.equal("one of its scopes is asked", desk.redeem(0, desk.ask(1, 2, 5, -1, 0), 0, 0), -2);
        expect.refused("none is", Expect.UNSUPPORTED, () -> desk.redeem(0, desk.ask(1, 2, 3, -1, 0), 0, 0));
    }
}
