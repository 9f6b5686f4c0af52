/** Owners, clients, scopes, keys, resources and claims. */
@Section("Terms")
public final class NumbersTest {
    private static final String OWNERS = "OWNERS are 0 .. 2,";
    private static final String CLIENTS = "CLIENTS 0 .. 2.";
    private static final String SCOPES = "SCOPES are four bits (masks 1 .. 15).";
    private static final String KEY = "A KEY is a number 1, 2, .. that speaks for an owner until it is revoked.";
    private static final String RESOURCE = "A RESOURCE has a number 0, 1, .. in the order of registering (numbers are"
            + " not given again), an owner, scopes, and RULES, in order;";
    private static final String REGISTERED = "it is REGISTERED until it is taken out.";
    private static final String CLAIMS = "CLAIMS have a KIND 0 .. 11 and a VALUE 0 .. 99.";
    private static final String SEAL = "The SEAL of a claim is ((kind + 3) * 1009 + value * 101) mod 9973.";
    private static final String KEYLESS = "KEYLESS is a number that is no key, or a revoked one's.";

    public static void main(String[] args) {
        Tests.run(NumbersTest.class);
    }

    @Sentence(OWNERS)
    static void ownersInsideAndOutside(Expect expect) {
        for (int owner = 0; owner <= 2; owner++) {
            expect.equal("owner " + owner, new GrantDesk().key(owner), 1);
        }
        expect.refusedFor(Edges.outside(0, 2), "owner", Expect.ARGUMENT, Scenes::owners, GrantDesk::key);
    }

    @Sentence(CLIENTS)
    static void clientsInsideAndOutside(Expect expect) {
        for (int client = 0; client <= 2; client++) {
            expect.equal("push by " + client, Scenes.served().push(client, 3, 2, 40, 9085), 4);
            expect.equal("redeem by " + client, Scenes.served().redeem(client, 3, 4, 0), 2);
        }
        expect.refusedFor(Edges.outside(0, 2), "push by", Expect.ARGUMENT, Scenes::served,
                (desk, client) -> desk.push(client, 3, 2, 40, 9085));
        expect.refusedFor(Edges.outside(0, 2), "redeem by", Expect.ARGUMENT, Scenes::served,
                (desk, client) -> desk.redeem(client, 3, 4, 0));
    }

    @Sentence(SCOPES)
    static void everyMask(Expect expect) {
        for (int scopes = 1; scopes <= 15; scopes++) {
            GrantDesk desk = Scenes.owners();
            int r = desk.register(1, scopes);
            expect.equal("registered", desk.resource(r, 1), scopes);
            desk.rescope(1, 2, scopes);
            expect.equal("rescoped", desk.resource(2, 1), scopes);
            expect.equal("ruled", desk.rule(1, 2, scopes, Texts.EVER), 1);
            expect.equal("asked", desk.ask(1, 2, scopes, r, scopes), 1);
            expect.equal("granted", desk.redeem(0, 1, 0, 0), 1);
            expect.equal("had", desk.introspect(1, 1, 2), scopes);
        }
    }

    @Sentence(SCOPES)
    static void noOtherMask(Expect expect) {
        int[] outside = Edges.and(Edges.outside(1, 15), -15, 17, 31, 1 << 30);
        expect.refusedFor(outside, "register", Expect.ARGUMENT, Scenes::served, (desk, s) -> desk.register(1, s));
        expect.refusedFor(outside, "rescope", Expect.ARGUMENT, Scenes::served, (desk, s) -> desk.rescope(1, 2, s));
        expect.refusedFor(outside, "rule", Expect.ARGUMENT, Scenes::served,
                (desk, s) -> desk.rule(1, 2, s, Texts.EVER));
        expect.refusedFor(outside, "ask", Expect.ARGUMENT, Scenes::served, (desk, s) -> desk.ask(1, 2, s, -1, 0));
        expect.refusedFor(outside, "more", Expect.ARGUMENT, Scenes::served, (desk, s) -> desk.ask(1, 0, 1, 2, s));
    }

    @Sentence(KEY)
    static void speaksUntilItIsRevoked(Expect expect) {
        GrantDesk desk = new GrantDesk();
        expect.equal("the first", desk.key(2), 1);
        expect.equal("the second", desk.key(2), 2);
        expect.equal("speaks", desk.register(1, 1), 0);
        desk.tick(100);
        expect.equal("still speaks", desk.rescope(1, 0, 3), 1);
        desk.revoke(1);
        expect.refused("no longer", Expect.NO_SUCH, () -> desk.rescope(1, 0, 1));
        expect.equal("the second speaks on", desk.rescope(2, 0, 1), 3);
    }

    @Sentence(KEYLESS)
    static void noCallKnowsThem(Expect expect) {
        for (int key : Scenes.KEYLESS) {
            String by = " by " + key;
            expect.refusedWhole("register" + by, Expect.NO_SUCH, Scenes::served, d -> d.register(key, 1));
            expect.refusedWhole("rescope" + by, Expect.NO_SUCH, Scenes::served, d -> d.rescope(key, 0, 1));
            expect.refusedWhole("remove" + by, Expect.NO_SUCH, Scenes::served, d -> d.remove(key, 0));
            expect.refusedWhole("rule" + by, Expect.NO_SUCH, Scenes::served, d -> d.rule(key, 0, 1, Texts.EVER));
            expect.refusedWhole("clear" + by, Expect.NO_SUCH, Scenes::served, d -> d.clear(key, 0));
            expect.refusedWhole("ask" + by, Expect.NO_SUCH, Scenes::served, d -> d.ask(key, 0, 1, -1, 0));
            expect.refusedWhole("introspect" + by, Expect.NO_SUCH, Scenes::served, d -> d.introspect(key, 1, 0));
            expect.equal("revoke" + by, Scenes.served().revoke(key), false);
        }
    }

    @Sentence(RESOURCE)
    static void numbersInTheOrderOfRegistering(Expect expect) {
        GrantDesk desk = new GrantDesk();
        desk.key(0);
        desk.key(1);
        for (int r = 0; r < 12; r++) {
            expect.equal("resource " + r, desk.register(1 + r % 2, 1 + r), r);
        }
        for (int r = 0; r < 12; r++) {
            expect.equal("its owner", desk.resource(r, 0), r % 2);
            expect.equal("its scopes", desk.resource(r, 1), 1 + r);
            expect.equal("its rules", desk.resource(r, 2), 0);
        }
    }

    @Sentence(RESOURCE)
    static void numbersAreNotGivenAgain(Expect expect) {
        GrantDesk desk = Scenes.owners();
        desk.remove(1, 0);
        expect.equal("behind all", desk.register(1, 4), 4);
        desk.remove(1, 4);
        expect.equal("behind the last", desk.register(1, 4), 5);
        expect.equal("the first is none", desk.resource(0, 0), -1);
    }

    @Sentence(RESOURCE)
    static void rulesOfEachItsOwn(Expect expect) {
        GrantDesk desk = Scenes.owners();
        desk.rule(1, 0, 1, Texts.EVER);
        desk.rule(1, 2, 2, Texts.EVER);
        desk.rule(1, 2, 4, Texts.EVER);
        int token = desk.redeem(0, desk.ask(1, 0, 7, 2, 7), 0, 0);
        expect.equal("of the first", desk.introspect(1, token, 0), 1);
        expect.equal("of the other", desk.introspect(1, token, 2), 6);
    }

    @Sentence(REGISTERED)
    static void untilItIsTakenOut(Expect expect) {
        GrantDesk desk = Scenes.later(Scenes.owners(), 100);
        expect.equal("whatever the clock", desk.resource(0, 0), 0);
        desk.revoke(1);
        expect.equal("whatever the key", desk.resource(0, 0), 0);
        desk.remove(desk.key(0), 0);
        expect.equal("taken out", desk.resource(0, 0), -1);
    }

    @Sentence(CLAIMS)
    static void kindsAndValuesInside(Expect expect) {
        for (int kind = 0; kind <= 11; kind++) {
            for (int value : new int[] {0, 1, 98, 99}) {
                GrantDesk desk = Scenes.ruled(Texts.is(kind, value));
                int ticket = Scenes.pushed(desk, 0, 1, kind, value);
                expect.equal("claim " + kind + " = " + value, desk.redeem(0, ticket, 0, 0), 1);
            }
        }
    }

    @Sentence(CLAIMS)
    static void kindsAndValuesOutside(Expect expect) {
        expect.refusedFor(Edges.outside(0, 11), "kind", Expect.ARGUMENT, Scenes::served,
                (desk, kind) -> Scenes.pushed(desk, 0, 1, kind, 0));
        expect.refusedFor(Edges.outside(0, 99), "value", Expect.ARGUMENT, Scenes::served,
                (desk, value) -> Scenes.pushed(desk, 0, 1, 0, value));
    }

    @Sentence(SEAL)
    static void writtenOut(Expect expect) {
        int[][] claims = {{0, 0, 3027}, {11, 0, 4153}, {0, 99, 3053}, {11, 99, 4179}, {2, 40, 9085}};
        for (int[] claim : claims) {
            expect.equal("its seal", Scenes.served().push(0, 1, claim[0], claim[1], claim[2]), 4);
        }
    }

    @Sentence(SEAL)
    static void justBelowAndAboveTheModulus(Expect expect) {
        expect.equal("9895", Scenes.served().push(0, 1, 0, 68, 9895), 4);
        expect.equal("9990 - 9973", Scenes.served().push(0, 1, 6, 9, 17), 4);
        expect.equal("19887 - 9973", Scenes.served().push(0, 1, 7, 97, 9914), 4);
        expect.equal("19984 - 2 * 9973", Scenes.served().push(0, 1, 11, 58, 38), 4);
    }

    @Sentence(SEAL)
    static void ofEveryClaim(Expect expect) {
        for (int kind = 0; kind <= 11; kind++) {
            for (int value = 0; value <= 99; value++) {
                long seal = ((kind + 3L) * 1009 + value * 101L) % 9973;
                String claim = "claim " + kind + " = " + value;
                GrantDesk desk = Scenes.served();
                int k = kind;
                int v = value;
                expect.refused(claim, Expect.UNSUPPORTED, () -> desk.push(0, 1, k, v, (int) seal - 1));
                expect.refused(claim, Expect.UNSUPPORTED, () -> desk.push(0, 1, k, v, (int) seal + 1));
                expect.equal(claim, desk.push(0, 1, k, v, (int) seal), 4);
            }
        }
    }
}
