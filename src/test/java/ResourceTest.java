@Section("Promise 15: resource")
public final class ResourceTest {
    private static final String OF_A_RESOURCE =
            "Of resource r: what = 0 its owner, 1 its scopes, 2 how many rules it has.";
    private static final String NONE = "-1 when there is no registered one, or what is not 0 .. 2.";

    public static void main(String[] args) {
        Tests.run(ResourceTest.class);
    }

    private static void due(Expect expect, GrantDesk desk, int r, int... due) {
        for (int what = 0; what <= 2; what++) {
            expect.equal("resource(" + r + ", " + what + ")", desk.resource(r, what), due[what]);
        }
    }

    @Sentence(OF_A_RESOURCE)
    static void ownerScopesAndRules(Expect expect) {
        GrantDesk desk = Scenes.served();
        due(expect, desk, 0, 0, 7, 2);
        due(expect, desk, 1, 1, 3, 0);
        due(expect, desk, 2, 0, 15, 0);
    }

    @Sentence(OF_A_RESOURCE)
    static void asTheyAreNow(Expect expect) {
        GrantDesk desk = Scenes.served();
        desk.rescope(1, 0, 9);
        due(expect, desk, 0, 0, 9, 2);
        desk.rule(1, 0, 1, Texts.EVER);
        desk.rule(1, 0, 1, Texts.EVER);
        due(expect, desk, 0, 0, 9, 4);
        desk.clear(1, 0);
        due(expect, desk, 0, 0, 9, 0);
        desk.revoke(1);
        due(expect, desk, 0, 0, 9, 0);
    }

    @Sentence(OF_A_RESOURCE)
    static void changesNothing(Expect expect) {
        expect.unchanged("resource", Scenes::served, desk -> {
            due(expect, desk, 0, 0, 7, 2);
            due(expect, desk, 4, -1, -1, -1);
        });
    }

    @Sentence(NONE)
    static void thereIsNoSuchResource(Expect expect) {
        for (int r : Edges.and(Edges.outside(0, 3), 11, 12)) {
            due(expect, Scenes.served(), r, -1, -1, -1);
        }
        due(expect, new GrantDesk(), 0, -1, -1, -1);
    }

    @Sentence(NONE)
    static void oneThatIsTakenOut(Expect expect) {
        GrantDesk desk = Scenes.served();
        due(expect, desk, 3, -1, -1, -1);
        desk.remove(1, 0);
        due(expect, desk, 0, -1, -1, -1);
    }

    @Sentence(NONE)
    static void whatOutside(Expect expect) {
        for (int what : Edges.outside(0, 2)) {
            expect.equal("what " + what, Scenes.served().resource(0, what), -1);
            expect.equal("what " + what + " of none", Scenes.served().resource(4, what), -1);
        }
    }
}
