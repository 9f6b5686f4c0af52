/** Promise 15: resource. */
public final class ResourceTest {
    public static void main(String[] args) {
        Expect expect = new Expect();
        GrantDesk desk = Scenes.served();
        int[][] due = {{0, 7, 2}, {1, 3, 0}, {0, 15, 0}};
        for (int r = 0; r < due.length; r++) {
            for (int what = 0; what < 3; what++) {
                expect.equal("resource(" + r + ", " + what + ")", desk.resource(r, what), due[r][what]);
            }
        }
        for (int what : new int[] {-1, 3, Integer.MIN_VALUE, Integer.MAX_VALUE}) {
            expect.equal("what " + what, desk.resource(0, what), -1);
            expect.equal("what " + what + " of none", desk.resource(4, what), -1);
        }
        for (int r : new int[] {-1, 3, 4, 11, 12, Integer.MIN_VALUE, Integer.MAX_VALUE}) {
            for (int what = 0; what < 3; what++) {
                expect.equal("resource " + r, desk.resource(r, what), -1);
            }
        }
        desk.revoke(1);
        expect.equal("no key is needed", desk.resource(0, 1), 7);
        expect.end();
    }
}
