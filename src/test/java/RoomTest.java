import com.sun.management.ThreadMXBean;
import java.lang.management.ManagementFactory;
import java.util.LinkedHashMap;
import java.util.Map;
import java.util.function.IntConsumer;
import java.util.function.Supplier;

/** What a run of 512 calls makes, dearest calls first, has room enough by far. */
public final class RoomTest {
    private static final int CALLS = 512;
    /** No object takes less than 16 bytes, no element less than one: a fraction of 600,000 and 7.3 million. */
    private static final long MOST_BYTES = 1_000_000;
    private static final ThreadMXBean THREADS = (ThreadMXBean) ManagementFactory.getThreadMXBean();

    public static void main(String[] args) {
        Expect expect = new Expect();
        runs().forEach((name, run) -> {
            bytes(run);
            long bytes = bytes(run);
            expect.equal(name + " is seen to make something", bytes > 0, true);
            expect.equal(name + " makes " + bytes + " bytes, so that it has room", bytes <= MOST_BYTES, true);
        });
        expect.end();
    }

    /** What 512 calls, with the call's number each, make on a new object. */
    private static long bytes(Supplier<IntConsumer> run) {
        long before = THREADS.getThreadAllocatedBytes(Thread.currentThread().getId());
        IntConsumer calls = run.get();
        for (int call = 0; call < CALLS; call++) {
            calls.accept(call);
        }
        return THREADS.getThreadAllocatedBytes(Thread.currentThread().getId()) - before;
    }

    private static Map<String, Supplier<IntConsumer>> runs() {
        Map<String, Supplier<IntConsumer>> runs = new LinkedHashMap<>();
        runs.put("redeem that can not be rotated", () -> {
            GrantDesk desk = Scenes.crowded(60, Texts.is(2, 40));
            return call -> attempt(() -> desk.redeem(0, 60, 15, 0));
        });
        runs.put("ask, redeem and introspect", () -> {
            GrantDesk desk = Scenes.generous();
            return call -> attempt(() -> askAndRedeem(desk, call));
        });
        runs.put("push", () -> {
            GrantDesk desk = Scenes.ruled(Texts.ever());
            return call -> attempt(() -> Scenes.pushed(desk, 0, call + 1, call % 12, call % 100));
        });
        runs.put("rule and clear", () -> {
            GrantDesk desk = Scenes.owners();
            return call -> attempt(() -> setRule(desk, call));
        });
        runs.put("register and remove", () -> {
            GrantDesk desk = new GrantDesk();
            desk.key(0);
            return call -> attempt(() -> desk.remove(1, desk.register(1, 15)));
        });
        return runs;
    }

    private static void askAndRedeem(GrantDesk desk, int call) {
        switch (call % 3) {
            case 0 -> desk.ask(1, 0, 7, 2, 15);
            case 1 -> desk.redeem(0, call / 3 + 1, 15, call / 3);
            default -> desk.introspect(1, call / 3 + 1, 0);
        }
    }

    private static void setRule(GrantDesk desk, int call) {
        if (call % 5 == 4) {
            desk.clear(1, 0);
        } else {
            desk.rule(1, 0, 7, Texts.EVER);
        }
    }

    private static void attempt(Runnable call) {
        try {
            call.run();
        } catch (RuntimeException refused) {
            return;
        }
    }
}
