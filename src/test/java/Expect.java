import java.util.function.Consumer;
import java.util.function.Supplier;

/** Collects the answers that are not the ones that are due, and ends a test by its exit code. */
final class Expect {
    static final Class<IllegalArgumentException> ARGUMENT = IllegalArgumentException.class;
    static final Class<IllegalStateException> STATE = IllegalStateException.class;
    static final Class<UnsupportedOperationException> UNSUPPORTED = UnsupportedOperationException.class;
    static final Class<java.util.NoSuchElementException> NO_SUCH = java.util.NoSuchElementException.class;

    private int wrong = 0;

    void equal(String what, long got, long due) {
        if (got != due) {
            tell(what + " answered " + got + ", due is " + due);
        }
    }

    void equal(String what, boolean got, boolean due) {
        equal(what, got ? 1 : 0, due ? 1 : 0);
    }

    void same(String what, String got, String due) {
        if (!got.equals(due)) {
            tell(what + ":\n  got " + got + "\n  due " + due);
        }
    }

    /** The call throws just this exception. */
    void refused(String what, Class<? extends RuntimeException> due, Runnable call) {
        try {
            call.run();
        } catch (RuntimeException thrown) {
            if (thrown.getClass() != due) {
                tell(what + " threw " + thrown + ", due is " + due.getSimpleName());
            }
            return;
        }
        tell(what + " threw nothing, due is " + due.getSimpleName());
    }

    /** The call throws just this exception, and leaves the scene as if it had never been made. */
    void refusedWhole(String what, Class<? extends RuntimeException> due,
            Supplier<GrantDesk> scene, Consumer<GrantDesk> call) {
        GrantDesk touched = scene.get();
        refused(what, due, () -> call.accept(touched));
        same(what + " must change nothing", Snapshot.of(touched), Snapshot.of(scene.get()));
    }

    void end() {
        if (wrong != 0) {
            System.out.println(wrong + " answers are not as due");
            System.exit(1);
        }
    }

    private void tell(String fault) {
        wrong++;
        System.out.println(fault);
    }
}
