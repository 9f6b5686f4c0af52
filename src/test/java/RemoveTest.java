/** Promise 6: remove. */
public final class RemoveTest {
    public static void main(String[] args) {
        Expect expect = new Expect();
        GrantDesk desk = Scenes.served();
        expect.equal("without rules", desk.remove(2, 1), 0);
        expect.equal("with two", desk.remove(1, 0), 2);
        for (int what = 0; what < 3; what++) {
            expect.equal("it is gone", desk.resource(0, what), -1);
        }
        expect.refused("remove again", Expect.NO_SUCH, () -> desk.remove(1, 0));
        expect.refused("rescope", Expect.NO_SUCH, () -> desk.rescope(1, 0, 1));
        expect.refused("rule", Expect.NO_SUCH, () -> desk.rule(1, 0, 1, 7));
        expect.refused("clear", Expect.NO_SUCH, () -> desk.clear(1, 0));
        expect.refused("ask", Expect.NO_SUCH, () -> desk.ask(1, 0, 1, -1, 0));
        expect.refused("ask for it, too", Expect.NO_SUCH, () -> desk.ask(1, 2, 1, 0, 1));
        expect.refused("introspect", Expect.NO_SUCH, () -> desk.introspect(1, 1, 0));
        expect.equal("the token stays good", desk.token(1, 0), 1);
        expect.equal("and counts what it was given", desk.token(1, 3), 1);
        expect.equal("the ticket stays live", desk.ticket(1, 0), 1);
        expect.equal("the others stay", desk.resource(2, 1), 15);
        for (int r : new int[] {-1, 1, 3, 4, 12, Integer.MIN_VALUE, Integer.MAX_VALUE}) {
            expect.refusedWhole("resource " + r, Expect.NO_SUCH, Scenes::served, d -> d.remove(1, r));
        }
        expect.end();
    }
}
