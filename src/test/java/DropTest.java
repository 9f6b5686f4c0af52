/** Promise 13: drop. */
public final class DropTest {
    public static void main(String[] args) {
        Expect expect = new Expect();
        GrantDesk desk = Scenes.served();
        desk.redeem(1, 3, 4, 0);
        for (int client : new int[] {-1, 1, 2, 3, Integer.MIN_VALUE, Integer.MAX_VALUE}) {
            expect.equal("client " + client, desk.drop(client, 1), false);
        }
        for (int token : new int[] {0, -1, 2, 3, 60, 61, Integer.MIN_VALUE, Integer.MAX_VALUE}) {
            expect.equal("token " + token, desk.drop(0, token), false);
        }
        expect.equal("still good", desk.token(1, 0), 1);
        expect.equal("drop", desk.drop(0, 1), true);
        expect.equal("good no more", desk.token(1, 0), 0);
        expect.equal("drop again", desk.drop(0, 1), false);
        expect.equal("the other stays", desk.token(2, 0), 1);
        expect.equal("its client drops it", desk.drop(1, 2), true);
        ends(expect);
        expect.end();
    }

    private static void ends(Expect expect) {
        GrantDesk desk = Scenes.served();
        desk.tick(30);
        expect.equal("at its end", desk.drop(0, 1), false);
        GrantDesk early = Scenes.served();
        early.tick(29);
        expect.equal("just before its end", early.drop(0, 1), true);
    }
}
