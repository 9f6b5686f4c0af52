import java.util.LinkedHashMap;
import java.util.Map;
import java.util.function.Consumer;

/** Which of the exceptions is the first that is due stands with each call's own tests. */
@Section("Terms")
public final class RefusalTest {
    private static final String REFUSED =
            "A call that is refused throws, changes nothing, and throws the first of what it lists that is due.";

    public static void main(String[] args) {
        Tests.run(RefusalTest.class);
    }

    /** As bound, with all the keys, resources and tickets that there may be and four rules on resource 0. */
    private static GrantDesk full() {
        GrantDesk desk = Scenes.bound();
        for (int key = 4; key <= 12; key++) {
            desk.key(2);
        }
        for (int r = 4; r <= 11; r++) {
            desk.register(1, 15);
        }
        desk.rule(1, 0, 2, Texts.text(Texts.is(5, 5)));
        desk.rule(1, 0, 2, Texts.text(Texts.below(5, 5)));
        for (int ticket = 5; ticket <= 60; ticket++) {
            desk.ask(1, 0, 1, -1, 0);
        }
        return desk;
    }

    /** One call for each exception that a call of the face lists, as each is refused by a full desk. */
    private static Map<Consumer<GrantDesk>, Class<? extends RuntimeException>> calls() {
        Map<Consumer<GrantDesk>, Class<? extends RuntimeException>> calls = new LinkedHashMap<>();
        calls.put(desk -> desk.key(3), Expect.ARGUMENT);
        calls.put(desk -> desk.key(0), Expect.STATE);
        calls.put(desk -> desk.register(3, 1), Expect.NO_SUCH);
        calls.put(desk -> desk.register(1, 0), Expect.ARGUMENT);
        calls.put(desk -> desk.register(1, 1), Expect.STATE);
        calls.put(desk -> desk.rescope(1, 1, 1), Expect.NO_SUCH);
        calls.put(desk -> desk.rescope(1, 0, 16), Expect.ARGUMENT);
        calls.put(desk -> desk.remove(1, 3), Expect.NO_SUCH);
        calls.put(desk -> desk.rule(1, 3, 1, Texts.EVER), Expect.NO_SUCH);
        calls.put(desk -> desk.rule(1, 0, 1, Texts.NO_TEXT), Expect.ARGUMENT);
        calls.put(desk -> desk.rule(1, 0, 1, Texts.EVER), Expect.STATE);
        calls.put(desk -> desk.clear(2, 0), Expect.NO_SUCH);
        calls.put(desk -> desk.ask(1, 0, 1, 1, 1), Expect.NO_SUCH);
        calls.put(desk -> desk.ask(1, 0, 1, 0, 1), Expect.ARGUMENT);
        calls.put(desk -> desk.ask(1, 0, 1, 2, 1), Expect.STATE);
        calls.put(desk -> desk.push(3, 60, 2, 40, 9085), Expect.ARGUMENT);
        calls.put(desk -> desk.push(0, 60, 2, 40, 9085), Expect.STATE);
        calls.put(desk -> desk.redeem(1, 60, 4, 1), Expect.ARGUMENT);
        calls.put(desk -> desk.redeem(0, 60, 0, 1), Expect.STATE);
        calls.put(desk -> desk.introspect(2, 1, 0), Expect.NO_SUCH);
        calls.put(desk -> desk.tick(101), Expect.ARGUMENT);
        return calls;
    }

    @Sentence(REFUSED)
    static void eachChangesNothing(Expect expect) {
        calls().forEach((call, due) -> expect.refusedWhole("on a full desk", due, RefusalTest::full, call));
    }

    @Sentence(REFUSED)
    static void allOneAfterAnotherChangeNothing(Expect expect) {
        expect.unchanged("all", RefusalTest::full,
                desk -> calls().forEach((call, due) -> expect.refused("on a full desk", due, () -> call.accept(desk))));
    }

    @Sentence(REFUSED)
    static void aWrongSealChangesNothing(Expect expect) {
        expect.refusedWhole("of an unbound ticket", Expect.UNSUPPORTED, Scenes::bound,
                desk -> desk.push(0, 3, 2, 40, 9084));
        expect.refusedWhole("of a ticket with a claim", Expect.UNSUPPORTED, Scenes::bound,
                desk -> desk.push(1, 4, 2, 41, 9085));
    }
}
