/** Promise 10: push. */
public final class PushTest {
    private static final int[] EXTREMES = {Integer.MIN_VALUE, Integer.MAX_VALUE};

    public static void main(String[] args) {
        Expect expect = new Expect();
        ordinary(expect);
        seals(expect);
        claimsAreEachTickets(expect);
        wrongArguments(expect);
        notAccepted(expect);
        full(expect);
        expect.end();
    }

    private static void ordinary(Expect expect) {
        GrantDesk desk = Scenes.served();
        desk.tick(4);
        expect.equal("push", desk.push(1, 1, 2, 40, 9085), 4);
        expect.equal("the old one is used", desk.ticket(1, 0), 2);
        expect.equal("and bound", desk.ticket(1, 1), 2);
        expect.equal("and has no claim", desk.ticket(1, 2), 0);
        expect.equal("and keeps its end", desk.ticket(1, 3), 10);
        expect.equal("the new one is live", desk.ticket(4, 0), 1);
        expect.equal("and bound", desk.ticket(4, 1), 2);
        expect.equal("and has the claim", desk.ticket(4, 2), 4);
        expect.equal("and ends 10 ticks from now", desk.ticket(4, 3), 14);
        desk.tick(3);
        expect.equal("a second claim", Scenes.pushed(desk, 1, 4, 11, 0), 5);
        expect.equal("both kinds", desk.ticket(5, 2), 4 + 2048);
        expect.equal("the end again", desk.ticket(5, 3), 17);
        expect.equal("the permissions went along", desk.redeem(1, 5, 0, 0), 2);
        expect.equal("just these", desk.introspect(1, 2, 0), 1);
    }

    private static void seals(Expect expect) {
        GrantDesk desk = Scenes.ruled(Texts.ever());
        expect.equal("least", desk.push(0, 1, 0, 0, 3027), 2);
        expect.equal("greatest", desk.push(0, 2, 11, 99, 4179), 3);
        expect.equal("just below 9973", desk.push(0, 3, 1, 58, 9894), 4);
        expect.equal("just above 9973", desk.push(0, 4, 1, 59, 22), 5);
        for (int seal : new int[] {9995, 21, 23, -9951, 0, Integer.MIN_VALUE, Integer.MAX_VALUE}) {
            expect.refusedWhole("seal " + seal, Expect.UNSUPPORTED, Scenes::served, d -> d.push(0, 1, 1, 59, seal));
        }
    }

    private static void claimsAreEachTickets(Expect expect) {
        GrantDesk desk = Scenes.ruled(Texts.is(3, 8));
        int second = desk.ask(1, 0, 1, -1, 0);
        int first = Scenes.pushed(desk, 0, 1, 3, 9);
        int changed = Scenes.pushed(desk, 0, first, 3, 8);
        expect.equal("in place of the one of its kind", desk.ticket(changed, 2), 8);
        expect.equal("the new value counts", desk.redeem(0, changed, 0, 0), 1);
        expect.equal("another ticket has none", desk.ticket(second, 2), 0);
        expect.equal("and is open", desk.redeem(0, second, 0, 0), -5);
    }

    private static void wrongArguments(Expect expect) {
        int[][] wrong = {{-1, 2, 40}, {3, 2, 40}, {0, -1, 40}, {0, 12, 40}, {0, 2, -1}, {0, 2, 100}};
        for (int[] w : wrong) {
            refusedFirst(expect, w[0], w[1], w[2]);
        }
        for (int extreme : EXTREMES) {
            refusedFirst(expect, extreme, 2, 40);
            refusedFirst(expect, 0, extreme, 40);
            refusedFirst(expect, 0, 2, extreme);
        }
    }

    /** The ticket being fine, used and none at all: the argument is looked at first. */
    private static void refusedFirst(Expect expect, int client, int kind, int value) {
        int seal = Texts.seal(kind, value);
        for (int ticket : new int[] {1, 2, 0}) {
            String what = "push(" + client + ", " + ticket + ", " + kind + ", " + value + ")";
            expect.refusedWhole(what, Expect.ARGUMENT, Scenes::served, d -> d.push(client, ticket, kind, value, seal));
            expect.refusedWhole(what, Expect.ARGUMENT, Scenes::served, d -> d.push(client, ticket, kind, value, 1));
        }
    }

    private static GrantDesk bound() {
        GrantDesk desk = Scenes.served();
        Scenes.pushed(desk, 1, 1, 2, 40);
        return desk;
    }

    private static GrantDesk late() {
        GrantDesk desk = bound();
        desk.tick(10);
        return desk;
    }

    private static void notAccepted(Expect expect) {
        for (int seal : new int[] {9085, 1}) {
            for (int ticket : new int[] {0, -1, 5, 60, 61, Integer.MIN_VALUE, Integer.MAX_VALUE}) {
                expect.refusedWhole("ticket " + ticket, Expect.STATE, PushTest::bound, d -> d.push(1, ticket, 2, 40, seal));
            }
            expect.refusedWhole("rotated", Expect.STATE, PushTest::bound, d -> d.push(1, 1, 2, 40, seal));
            expect.refusedWhole("redeemed", Expect.STATE, PushTest::bound, d -> d.push(0, 2, 2, 40, seal));
            expect.refusedWhole("another's", Expect.STATE, PushTest::bound, d -> d.push(0, 4, 2, 40, seal));
            expect.refusedWhole("at its end", Expect.STATE, PushTest::late, d -> d.push(1, 4, 2, 40, seal));
        }
        expect.refusedWhole("no binding by a wrong seal", Expect.UNSUPPORTED, PushTest::bound, d -> d.push(0, 3, 2, 40, 1));
        GrantDesk desk = bound();
        desk.tick(9);
        expect.equal("just before its end", desk.push(1, 4, 2, 40, 9085), 5);
    }

    private static GrantDesk sixty() {
        return Scenes.crowded(Texts.is(2, 40));
    }

    private static void full(Expect expect) {
        expect.refused("the 61st", Expect.STATE, () -> sixty().push(0, 60, 2, 40, 9085));
        expect.refused("before the seal", Expect.STATE, () -> sixty().push(0, 60, 2, 40, 1));
        expect.refused("behind the arguments", Expect.ARGUMENT, () -> sixty().push(3, 60, 2, 40, 9085));
        GrantDesk desk = sixty();
        expect.refused("refused", Expect.STATE, () -> desk.push(0, 60, 2, 40, 9085));
        expect.equal("still live", desk.ticket(60, 0), 1);
        expect.equal("bound to none", desk.ticket(60, 1), 0);
        expect.equal("no claim", desk.ticket(60, 2), 0);
        expect.equal("no 61st", desk.ticket(61, 0), -1);
        GrantDesk room = Scenes.ruled(Texts.ever());
        int ticket = 1;
        for (int number = 2; number <= 60; number++) {
            ticket = Scenes.pushed(room, 2, ticket, number % 12, number);
            expect.equal("rotated to", ticket, number);
        }
        expect.equal("all kinds", room.ticket(60, 2), 4095);
    }
}
