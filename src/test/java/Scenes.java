/** Desks in states that several tests begin with. */
final class Scenes {
    /** In owners and served: no key, and a revoked one's number. */
    static final int[] KEYLESS = Edges.and(Edges.outside(1, 3), 3);
    /** In owners and served: no resource, another owner's, and one taken out. */
    static final int[] NOT_OF_KEY_1 = Edges.and(Edges.outside(0, 3), 1, 3);

    private Scenes() {
    }

    /** Key 1 of owner 0, key 2 of owner 1, key 3 of owner 0 revoked; resource 0 (scopes 7) of owner
     * 0, 1 (scopes 3) of owner 1, 2 (scopes 15) of owner 0, 3 of owner 0 taken out. */
    static GrantDesk owners() {
        GrantDesk desk = new GrantDesk();
        desk.key(0);
        desk.key(1);
        desk.key(0);
        desk.revoke(3);
        desk.register(1, 7);
        desk.register(2, 3);
        desk.register(1, 15);
        desk.register(1, 5);
        desk.remove(1, 3);
        return desk;
    }

    /** As owners, with rules on resource 0: scope 1 if claim 2 is 40, scope 4 ever; ticket 1 for its
     * scopes 3, ticket 2 used for token 1 (scope 4) of client 0, ticket 3 for its scope 1. */
    static GrantDesk served() {
        GrantDesk desk = owners();
        desk.rule(1, 0, 1, Texts.text(Texts.is(2, 40)));
        desk.rule(1, 0, 4, Texts.EVER);
        desk.ask(1, 0, 3, -1, 0);
        desk.ask(1, 0, 4, -1, 0);
        desk.redeem(0, 2, 0, 0);
        desk.ask(1, 0, 1, -1, 0);
        return desk;
    }

    /** As served; ticket 1 was rotated to ticket 4, which is bound to client 1 and has claim 2 = 40. */
    static GrantDesk bound() {
        GrantDesk desk = served();
        pushed(desk, 1, 1, 2, 40);
        return desk;
    }

    /** As owners, with every scope of resources 0, 1 and 2 granted ever. */
    static GrantDesk generous() {
        GrantDesk desk = owners();
        desk.rule(1, 0, 15, Texts.EVER);
        desk.rule(2, 1, 15, Texts.EVER);
        desk.rule(1, 2, 15, Texts.EVER);
        return desk;
    }

    /** One resource (scopes 15) of owner 0's key 1 with one rule on scope 1, and ticket 1 for it. */
    static GrantDesk ruled(int... predicate) {
        GrantDesk desk = new GrantDesk();
        desk.key(0);
        desk.register(1, 15);
        desk.rule(1, 0, 1, Texts.text(predicate));
        desk.ask(1, 0, 1, -1, 0);
        return desk;
    }

    /** As ruled, with tickets up to a number. */
    static GrantDesk crowded(int tickets, int... predicate) {
        GrantDesk desk = ruled(predicate);
        for (int ticket = 2; ticket <= tickets; ticket++) {
            desk.ask(1, 0, 1, -1, 0);
        }
        return desk;
    }

    /** The desk, that many ticks later. */
    static GrantDesk later(GrantDesk desk, int ticks) {
        desk.tick(ticks);
        return desk;
    }

    /** The number of the ticket that now stands for it. */
    static int pushed(GrantDesk desk, int client, int ticket, int kind, int value) {
        return desk.push(client, ticket, kind, value, Texts.seal(kind, value));
    }
}
