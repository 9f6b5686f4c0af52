import java.util.NoSuchElementException;
import java.util.function.Consumer;
import java.util.function.Supplier;

/** Collects the answers that are not the ones that are due. */
final class Expect {
    static final Class<IllegalArgumentException> ARGUMENT = IllegalArgumentException.class;
    static final Class<IllegalStateException> STATE = IllegalStateException.class;
    static final Class<UnsupportedOperationException> UNSUPPORTED = UnsupportedOperationException.class;
    static final Class<NoSuchElementException> NO_SUCH = NoSuchElementException.class;

    /** A call of a desk with one number that is the test's subject. */
    interface Call {
        void on(GrantDesk desk, int number);
    }

    private int wrong = 0;

    boolean holds() {
        return wrong == 0;
    }

    void equal(String what, long got, long due) {
        if (got != due) {
            tell(what + " answered " + got + ", due is " + due);
        }
    }

    void equal(String what, boolean got, boolean due) {
        equal(what, got ? 1 : 0, due ? 1 : 0);
    }

    void same(String what, String got, String due) {
        if (!got.equals(due)) {
            tell(what + ":\n  got " + got + "\n  due " + due);
        }
    }

    /** The call throws just this exception. */
    void refused(String what, Class<? extends RuntimeException> due, Runnable call) {
        try {
            call.run();
        } catch (RuntimeException thrown) {
            if (thrown.getClass() != due) {
                tell(what + " threw " + thrown + ", due is " + due.getSimpleName());
            }
            return;
        }
        tell(what + " threw nothing, due is " + due.getSimpleName());
    }

    /** The call throws just this exception, and leaves the scene as if it had never been made. */
    void refusedWhole(String what, Class<? extends RuntimeException> due,
            Supplier<GrantDesk> scene, Consumer<GrantDesk> call) {
        unchanged(what, scene, desk -> refused(what, due, () -> call.accept(desk)));
    }

    /** With each of the numbers the call is refused whole. */
    void refusedFor(int[] numbers, String what, Class<? extends RuntimeException> due,
            Supplier<GrantDesk> scene, Call call) {
        for (int number : numbers) {
            refusedWhole(what + " " + number, due, scene, desk -> call.on(desk, number));
        }
    }

    /** The call, made with each number as the key, for resource 0 if for any, knows none of them. */
    void keyless(Call call) {
        refusedFor(Scenes.KEYLESS, "key", NO_SUCH, Scenes::served, call);
        refusedFor(new int[] {0, 1}, "key of none,", NO_SUCH, GrantDesk::new, call);
    }

    /** The call, made by key 1 with each number as the resource, finds none of its owner. */
    void notOfTheOwner(Call call) {
        refusedFor(Scenes.NOT_OF_KEY_1, "resource", NO_SUCH, Scenes::served, call);
    }

    /** The call leaves the scene as if it had never been made. */
    void unchanged(String what, Supplier<GrantDesk> scene, Consumer<GrantDesk> call) {
        GrantDesk touched = scene.get();
        call.accept(touched);
        same(what + " must change nothing", Snapshot.of(touched), Snapshot.of(scene.get()));
    }

    void end() {
        if (!holds()) {
            System.out.println(wrong + " answers are not as due");
            System.exit(1);
        }
    }

    void tell(String fault) {
        wrong++;
        System.out.println(fault);
    }
}
