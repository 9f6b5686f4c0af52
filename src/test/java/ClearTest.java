/** Promise 8: clear. */
public final class ClearTest {
    public static void main(String[] args) {
        Expect expect = new Expect();
        GrantDesk desk = Scenes.served();
        desk.rule(1, 2, 1, 7);
        expect.equal("how many it had", desk.clear(1, 0), 2);
        expect.equal("none now", desk.resource(0, 2), 0);
        expect.equal("none to clear", desk.clear(1, 0), 0);
        expect.equal("the resource stays", desk.resource(0, 1), 7);
        expect.equal("the others' rules stay", desk.resource(2, 2), 1);
        expect.equal("the token stays", desk.introspect(1, 1, 0), 4);
        expect.refused("nothing grants any more", Expect.UNSUPPORTED, () -> desk.redeem(0, 1, 15, 0));
        expect.equal("a new first rule", desk.rule(1, 0, 2, 7), 1);
        expect.equal("alone", desk.redeem(0, desk.ask(1, 0, 7, -1, 0), 0, 0), 2);
        expect.equal("counts", desk.introspect(1, 2, 0), 2);
        for (int r : new int[] {-1, 1, 3, 4, 12, Integer.MIN_VALUE, Integer.MAX_VALUE}) {
            expect.refusedWhole("resource " + r, Expect.NO_SUCH, Scenes::served, d -> d.clear(1, r));
        }
        expect.end();
    }
}
