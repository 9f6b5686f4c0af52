/** Promise 1: a new object has no keys, resources, tickets and tokens, and its clock is 0. */
public final class NewObjectTest {
    public static void main(String[] args) {
        Expect expect = new Expect();
        GrantDesk desk = new GrantDesk();
        expect.equal("clock", desk.tick(0), 0);
        for (int number = -1; number <= 2; number++) {
            int n = number;
            expect.equal("revoke", desk.revoke(n), false);
            expect.equal("resource", desk.resource(n, 0), -1);
            expect.equal("ticket", desk.ticket(n, 0), -1);
            expect.equal("token", desk.token(n, 0), -1);
            expect.equal("drop", desk.drop(0, n), false);
            expect.refused("register", Expect.NO_SUCH, () -> desk.register(n, 1));
            expect.refused("push", Expect.STATE, () -> Scenes.pushed(desk, 0, n, 0, 0));
            expect.refused("redeem", Expect.STATE, () -> desk.redeem(0, n, 0, 0));
        }
        expect.equal("first key", desk.key(1), 1);
        expect.equal("first resource", desk.register(1, 1), 0);
        expect.equal("first ticket", desk.ask(1, 0, 1, -1, 0), 1);
        desk.rule(1, 0, 1, Texts.text(Texts.ever()));
        expect.equal("first token", desk.redeem(0, 1, 0, 0), 1);
        expect.equal("another object is apart", new GrantDesk().revoke(1), false);
        expect.end();
    }
}
