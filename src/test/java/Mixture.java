import java.util.ArrayList;
import java.util.Arrays;
import java.util.List;
import java.util.function.Supplier;

/**
 * A call's arguments with every mixture of faults in them: whatever else is wrong, the first of the
 * exceptions that the call lists and that is due is thrown, and nothing changes.
 */
final class Mixture {
    interface Call {
        void on(GrantDesk desk, int... arguments);
    }

    private record Fault(int argument, int value, Class<? extends RuntimeException> due) {
    }

    private final Expect expect;
    private final Call call;
    private final int[] good;
    private final List<Class<? extends RuntimeException>> listed = new ArrayList<>();
    private final List<Fault> faults = new ArrayList<>();

    Mixture(Expect expect, Call call, int... good) {
        this.expect = expect;
        this.call = call;
        this.good = good;
    }

    /** The next exception that the call lists. */
    Mixture lists(Class<? extends RuntimeException> due) {
        listed.add(due);
        return this;
    }

    /** Each of these values in the place of an argument makes the exception due that was listed last. */
    Mixture wrong(int argument, int... values) {
        for (int value : values) {
            faults.add(new Fault(argument, value, listed.get(listed.size() - 1)));
        }
        return this;
    }

    /** In a scene that refuses no good arguments. */
    Mixture in(Supplier<GrantDesk> scene) {
        mix(0, good.clone(), listed.size(), scene);
        return this;
    }

    /** In a scene that makes an exception due whatever the arguments are. */
    Mixture inRefusing(Supplier<GrantDesk> scene, Class<? extends RuntimeException> due) {
        mix(0, good.clone(), listed.indexOf(due), scene);
        return this;
    }

    /** The arguments before a place are chosen, and the first that is due so far is known. */
    private void mix(int place, int[] chosen, int first, Supplier<GrantDesk> scene) {
        if (place == good.length) {
            check(chosen.clone(), first, scene);
            return;
        }
        mix(place + 1, chosen, first, scene);
        for (Fault fault : faults) {
            if (fault.argument == place) {
                chosen[place] = fault.value;
                mix(place + 1, chosen, Math.min(first, listed.indexOf(fault.due)), scene);
                chosen[place] = good[place];
            }
        }
    }

    private void check(int[] arguments, int first, Supplier<GrantDesk> scene) {
        if (first < listed.size()) {
            expect.refusedWhole("with " + Arrays.toString(arguments), listed.get(first), scene,
                    desk -> call.on(desk, arguments));
        }
    }
}
