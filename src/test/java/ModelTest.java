import java.util.Random;
import java.util.TreeMap;
import java.util.function.Supplier;

/** All promises together: random runs of 512 calls, each answer compared with the model's. */
public final class ModelTest {
    private static final int RUNS = 3000;
    private static final int CALLS = 512;
    private static final int[] EXTREMES = {Integer.MIN_VALUE, Integer.MAX_VALUE, -1, 16, 100, 61};

    private final Expect expect;
    private final TreeMap<String, Integer> seen;
    private final Random random;
    private final GrantDesk desk = new GrantDesk();
    private final Model model = new Model();
    private final int haste;
    private int newestTicket = 0;
    private int newestToken = 0;
    private int newestKey = 1;

    private ModelTest(Expect expect, TreeMap<String, Integer> seen, int seed) {
        this.expect = expect;
        this.seen = seen;
        this.random = new Random(seed);
        this.haste = 1 + random.nextInt(8);
    }

    public static void main(String[] args) {
        Expect expect = new Expect();
        TreeMap<String, Integer> seen = new TreeMap<>();
        for (int seed = 0; seed < RUNS; seed++) {
            new ModelTest(expect, seen, seed).run();
        }
        for (String outcome : new String[] {"redeem gave", "redeem rotated", "redeem UnsupportedOperationException",
                "redeem IllegalStateException", "push gave", "push UnsupportedOperationException",
                "rule gave", "rule IllegalStateException", "ask IllegalStateException",
                "key IllegalStateException", "register IllegalStateException"}) {
            expect.equal("the runs come to: " + outcome, seen.getOrDefault(outcome, 0) > 100, true);
        }
        expect.end();
    }

    private void run() {
        key(0);
        register(1, 15);
        for (int call = 2; call < CALLS; call++) {
            step(random.nextInt(40));
        }
    }

    private void step(int choice) {
        switch (choice) {
            case 0 -> key(random.nextInt(6) == 0 ? some(3) : 0);
            case 1 -> register(someKey(), scopes());
            case 2 -> rescope(someKey(), someResource(), scopes());
            case 3 -> rareChange();
            case 4, 5, 6, 7 -> rule(someKey(), someResource(), scopes(), text());
            case 8, 9, 10, 11, 12, 13, 14 -> ask();
            case 15, 16, 17, 18, 19, 20 -> push();
            case 21, 22, 23, 24, 25, 26, 27 -> redeem();
            case 28, 29, 30 -> introspect(someKey(), someToken(), someResource());
            case 31 -> drop();
            case 32 -> tick(random.nextInt(12) == 0 ? some(101) : random.nextInt(haste));
            case 33 -> resource(someResource(), some(3));
            case 34, 35, 36, 37 -> ticket(someTicket(), some(4));
            default -> token(someToken(), some(4));
        }
    }

    private void rareChange() {
        switch (random.nextInt(6)) {
            case 0 -> revoke(some(14));
            case 1, 2 -> remove(someKey(), someResource());
            default -> clear(someKey(), someResource());
        }
    }

    private int some(int bound) {
        return random.nextInt(60) == 0 ? EXTREMES[random.nextInt(EXTREMES.length)] : random.nextInt(bound);
    }

    /** Mostly the newest, like the tickets and tokens below: a blind choice is seldom of use. */
    private int someKey() {
        return random.nextInt(6) == 0 ? some(14) : newestKey;
    }

    private int someResource() {
        int r = random.nextInt(12);
        for (int tries = 0; tries < 12 && model.resource(r, 0) == -1; tries++) {
            r = (r + 1) % 12;
        }
        return random.nextInt(8) == 0 ? some(13) : r;
    }

    private int someTicket() {
        int ticket = newestTicket - random.nextInt(4);
        while (ticket > 1 && model.ticket(ticket, 0) != 1) {
            ticket--;
        }
        return random.nextInt(8) == 0 ? some(62) : ticket;
    }

    private int someToken() {
        return random.nextInt(8) == 0 ? some(62) : newestToken - random.nextInt(3);
    }

    /** Mostly the one that the ticket is bound to. */
    private int someClient(int ticket) {
        int bound = model.ticket(ticket, 1) - 1;
        return random.nextInt(8) == 0 || bound < 0 ? some(3) : bound;
    }

    private int scopes() {
        return random.nextInt(20) == 0 ? some(18) : 1 + random.nextInt(15);
    }

    /** Mostly some that the resource has. */
    private int scopesOf(int r) {
        return random.nextInt(8) == 0 ? scopes() : scopes() & model.resource(r, 1);
    }

    private long text() {
        int[] bytes = predicate(3);
        if (random.nextInt(12) == 0) {
            bytes[random.nextInt(bytes.length)] = random.nextInt(256);
        }
        long text = Texts.text(bytes);
        return random.nextInt(30) == 0 ? text | (long) random.nextInt(256) << (8 * random.nextInt(8)) : text;
    }

    private int[] predicate(int depth) {
        switch (random.nextInt(depth > 0 ? 8 : 5)) {
            case 0: return Texts.since(random.nextInt(100));
            case 1: return Texts.ever();
            case 2:
            case 3: return Texts.is(random.nextInt(4), random.nextInt(3));
            case 4: return Texts.below(random.nextInt(4), random.nextInt(4));
            case 5: return Texts.not(predicate(depth - 1));
            case 6: return Texts.all(predicate(depth - 1), predicate(depth - 1));
            default: return Texts.any(predicate(depth - 1), predicate(depth - 1));
        }
    }

    private void same(String call, Supplier<Object> got, Supplier<Object> due) {
        String answer = outcome(due);
        expect.same(call, outcome(got), answer);
        String kind = answer.startsWith("-") ? "rotated" : Character.isDigit(answer.charAt(0)) ? "gave" : answer;
        seen.merge(call.substring(0, call.indexOf('(')) + " " + kind, 1, Integer::sum);
    }

    private static String outcome(Supplier<Object> call) {
        try {
            return call.get().toString();
        } catch (RuntimeException thrown) {
            return thrown.getClass().getSimpleName();
        }
    }

    private void key(int owner) {
        same("key(" + owner + ")", () -> desk.key(owner), () -> newestKey = model.key(owner));
    }

    private void revoke(int key) {
        same("revoke(" + key + ")", () -> desk.revoke(key), () -> model.revoke(key));
    }

    private void register(int key, int scopes) {
        same("register(" + key + ", " + scopes + ")",
                () -> desk.register(key, scopes), () -> model.register(key, scopes));
    }

    private void rescope(int key, int r, int scopes) {
        same("rescope(" + key + ", " + r + ", " + scopes + ")",
                () -> desk.rescope(key, r, scopes), () -> model.rescope(key, r, scopes));
    }

    private void remove(int key, int r) {
        same("remove(" + key + ", " + r + ")", () -> desk.remove(key, r), () -> model.remove(key, r));
    }

    private void rule(int key, int r, int scopes, long text) {
        same("rule(" + key + ", " + r + ", " + scopes + ", " + text + ")",
                () -> desk.rule(key, r, scopes, text), () -> model.rule(key, r, scopes, text));
    }

    private void clear(int key, int r) {
        same("clear(" + key + ", " + r + ")", () -> desk.clear(key, r), () -> model.clear(key, r));
    }

    private void ask() {
        int key = someKey();
        int r = someResource();
        int scopes = scopesOf(r);
        int other = random.nextBoolean() ? -1 : someResource();
        int more = scopesOf(other);
        same("ask(" + key + ", " + r + ", " + scopes + ", " + other + ", " + more + ")",
                () -> desk.ask(key, r, scopes, other, more),
                () -> newestTicket = model.ask(key, r, scopes, other, more));
    }

    private void push() {
        int ticket = someTicket();
        int client = someClient(ticket);
        int kind = random.nextInt(10) == 0 ? some(13) : random.nextInt(4);
        int value = random.nextInt(10) == 0 ? some(101) : random.nextInt(4);
        int seal = Texts.seal(kind, value) + (random.nextInt(12) == 0 ? 1 : 0);
        same("push(" + client + ", " + ticket + ", " + kind + ", " + value + ", " + seal + ")",
                () -> desk.push(client, ticket, kind, value, seal),
                () -> newestTicket = model.push(client, ticket, kind, value, seal));
    }

    private void redeem() {
        int ticket = someTicket();
        int client = someClient(ticket);
        int scopes = random.nextBoolean() ? 0 : some(16);
        int token = random.nextInt(4) != 0 ? 0 : someToken();
        same("redeem(" + client + ", " + ticket + ", " + scopes + ", " + token + ")",
                () -> desk.redeem(client, ticket, scopes, token), () -> redeemed(client, ticket, scopes, token));
    }

    private int redeemed(int client, int ticket, int scopes, int token) {
        int answer = model.redeem(client, ticket, scopes, token);
        newestTicket = Math.max(newestTicket, -answer);
        newestToken = Math.max(newestToken, answer);
        return answer;
    }

    private void introspect(int key, int token, int r) {
        same("introspect(" + key + ", " + token + ", " + r + ")",
                () -> desk.introspect(key, token, r), () -> model.introspect(key, token, r));
    }

    private void drop() {
        int token = someToken();
        int client = random.nextInt(3) == 0 ? some(3) : model.token(token, 1);
        same("drop(" + client + ", " + token + ")", () -> desk.drop(client, token), () -> model.drop(client, token));
    }

    private void tick(int n) {
        same("tick(" + n + ")", () -> desk.tick(n), () -> model.tick(n));
    }

    private void resource(int r, int what) {
        same("resource(" + r + ", " + what + ")", () -> desk.resource(r, what), () -> model.resource(r, what));
    }

    private void ticket(int ticket, int what) {
        same("ticket(" + ticket + ", " + what + ")", () -> desk.ticket(ticket, what), () -> model.ticket(ticket, what));
    }

    private void token(int token, int what) {
        same("token(" + token + ", " + what + ")", () -> desk.token(token, what), () -> model.token(token, what));
    }
}
