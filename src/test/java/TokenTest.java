/** Promise 17: token. */
public final class TokenTest {
    public static void main(String[] args) {
        Expect expect = new Expect();
        answers(expect);
        asItWasGiven(expect);
        wrong(expect);
        expect.end();
    }

    private static void due(Expect expect, GrantDesk desk, int token, int... due) {
        for (int what = 0; what < 4; what++) {
            expect.equal("token(" + token + ", " + what + ")", desk.token(token, what), due[what]);
        }
    }

    private static void answers(Expect expect) {
        GrantDesk desk = Scenes.served();
        desk.rule(1, 2, 15, 7);
        desk.tick(2);
        desk.redeem(2, desk.ask(1, 0, 4, 2, 3), 0, 0);
        due(expect, desk, 1, 1, 0, 30, 1);
        due(expect, desk, 2, 1, 2, 32, 2);
        desk.tick(27);
        due(expect, desk, 1, 1, 0, 30, 1);
        desk.tick(1);
        due(expect, desk, 1, 0, 0, 30, 1);
        due(expect, desk, 2, 1, 2, 32, 2);
        desk.tick(100);
        due(expect, desk, 2, 0, 2, 32, 2);
    }

    private static void asItWasGiven(Expect expect) {
        GrantDesk desk = Scenes.served();
        desk.rescope(1, 0, 1);
        due(expect, desk, 1, 1, 0, 30, 1);
        desk.remove(1, 0);
        due(expect, desk, 1, 1, 0, 30, 1);
        desk.drop(0, 1);
        due(expect, desk, 1, 0, 0, 30, 1);
    }

    private static void wrong(Expect expect) {
        GrantDesk desk = Scenes.served();
        for (int what : new int[] {-1, 4, Integer.MIN_VALUE, Integer.MAX_VALUE}) {
            expect.equal("what " + what, desk.token(1, what), -1);
        }
        for (int token : new int[] {0, -1, 2, 60, 61, Integer.MIN_VALUE, Integer.MAX_VALUE}) {
            due(expect, desk, token, -1, -1, -1, -1);
        }
    }
}
