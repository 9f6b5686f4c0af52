/** Promise 2: key. */
public final class KeyTest {
    public static void main(String[] args) {
        Expect expect = new Expect();
        ordinary(expect);
        wrongOwners(expect);
        full(expect);
        expect.end();
    }

    private static void ordinary(Expect expect) {
        GrantDesk desk = new GrantDesk();
        for (int owner = 0; owner < 3; owner++) {
            expect.equal("key(" + owner + ")", desk.key(owner), owner + 1);
            desk.register(owner + 1, 1);
            expect.equal("its owner", desk.resource(owner, 0), owner);
        }
        expect.equal("a second key of an owner", desk.key(0), 4);
        expect.equal("speaks for the same", desk.remove(4, 0), 0);
        desk.revoke(4);
        expect.equal("numbers go on", desk.key(2), 5);
    }

    private static void wrongOwners(Expect expect) {
        int[] wrong = {-1, 3, Integer.MIN_VALUE, Integer.MAX_VALUE};
        for (int owner : wrong) {
            expect.refusedWhole("key(" + owner + ")", Expect.ARGUMENT, Scenes::served, d -> d.key(owner));
        }
    }

    private static GrantDesk twelve() {
        GrantDesk desk = new GrantDesk();
        for (int number = 1; number <= 12; number++) {
            desk.key(number % 3);
        }
        return desk;
    }

    private static void full(Expect expect) {
        GrantDesk desk = new GrantDesk();
        for (int number = 1; number <= 12; number++) {
            expect.equal("key " + number, desk.key(1), number);
        }
        expect.refused("the 13th", Expect.STATE, () -> desk.key(1));
        desk.revoke(5);
        expect.refused("the 13th, one being revoked", Expect.STATE, () -> desk.key(1));
        expect.refusedWhole("a full desk", Expect.STATE, KeyTest::twelve, d -> d.key(0));
        expect.refusedWhole("the owner is looked at first", Expect.ARGUMENT, KeyTest::twelve, d -> d.key(3));
        expect.equal("the 12th speaks", desk.register(12, 1), 0);
    }
}
