/** Promise 16: ticket. */
public final class TicketTest {
    public static void main(String[] args) {
        Expect expect = new Expect();
        answers(expect);
        ends(expect);
        wrong(expect);
        expect.end();
    }

    private static void answers(Expect expect) {
        GrantDesk desk = Scenes.served();
        desk.tick(1);
        Scenes.pushed(desk, 2, 1, 2, 40);
        Scenes.pushed(desk, 2, 4, 0, 0);
        int[][] due = {{2, 3, 0, 10}, {2, 1, 0, 10}, {1, 0, 0, 10}, {2, 3, 4, 11}, {1, 3, 5, 11}};
        for (int ticket = 1; ticket <= due.length; ticket++) {
            for (int what = 0; what < 4; what++) {
                expect.equal("ticket(" + ticket + ", " + what + ")", desk.ticket(ticket, what), due[ticket - 1][what]);
            }
        }
    }

    private static void ends(Expect expect) {
        GrantDesk desk = Scenes.served();
        desk.tick(9);
        expect.equal("just before its end", desk.ticket(1, 0), 1);
        desk.tick(1);
        expect.equal("at its end", desk.ticket(1, 0), 3);
        expect.equal("used before its end", desk.ticket(2, 0), 2);
        expect.equal("its end stays", desk.ticket(1, 3), 10);
        expect.equal("its client stays", desk.ticket(2, 1), 1);
        desk.tick(100);
        expect.equal("long after", desk.ticket(1, 0), 3);
        expect.equal("used, long after", desk.ticket(2, 0), 2);
    }

    private static void wrong(Expect expect) {
        GrantDesk desk = Scenes.served();
        for (int what : new int[] {-1, 4, Integer.MIN_VALUE, Integer.MAX_VALUE}) {
            expect.equal("what " + what, desk.ticket(1, what), -1);
        }
        for (int ticket : new int[] {0, -1, 4, 60, 61, Integer.MIN_VALUE, Integer.MAX_VALUE}) {
            for (int what = 0; what < 4; what++) {
                expect.equal("ticket " + ticket, desk.ticket(ticket, what), -1);
            }
        }
    }
}
