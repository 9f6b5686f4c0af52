/** Promise 14: tick. */
public final class TickTest {
    public static void main(String[] args) {
        Expect expect = new Expect();
        GrantDesk desk = new GrantDesk();
        expect.equal("tick(0)", desk.tick(0), 0);
        expect.equal("tick(1)", desk.tick(1), 1);
        expect.equal("tick(100)", desk.tick(100), 101);
        expect.equal("tick(7)", desk.tick(7), 108);
        for (int n : new int[] {-1, 101, Integer.MIN_VALUE, Integer.MAX_VALUE}) {
            expect.refusedWhole("tick(" + n + ")", Expect.ARGUMENT, Scenes::served, d -> d.tick(n));
        }
        for (int call = 1; call <= 400; call++) {
            expect.equal("far on", desk.tick(100), 108 + 100 * call);
        }
        desk.key(0);
        desk.register(1, 1);
        expect.equal("a late ticket", desk.ask(1, 0, 1, -1, 0), 1);
        expect.equal("its end", desk.ticket(1, 3), 40118);
        expect.end();
    }
}
