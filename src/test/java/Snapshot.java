import java.util.function.IntSupplier;

/** Everything that can be seen of a desk; taking it may change the desk, so it is the last look. */
final class Snapshot {
    private static final int OWNERS = 3;
    private static final int CLIENTS = 3;
    private static final int KEYS = 12;
    private static final int RESOURCES = 12;
    private static final int EVERY_SCOPE = 15;

    private final GrantDesk desk;
    private final StringBuilder seen = new StringBuilder();

    private Snapshot(GrantDesk desk) {
        this.desk = desk;
    }

    static String of(GrantDesk desk) {
        Snapshot snapshot = new Snapshot(desk);
        snapshot.add("clock", () -> desk.tick(0));
        snapshot.addResources();
        int tickets = snapshot.addTickets();
        int tokens = snapshot.addTokens(1);
        snapshot.addIntrospections(1, Math.min(tokens, 3));
        snapshot.addRedemptions(tickets);
        int now = snapshot.addTokens(tokens + 1);
        snapshot.addIntrospections(tokens + 1, Math.min(now, tokens + 3));
        snapshot.addKeys();
        return snapshot.seen.toString();
    }

    private void addResources() {
        for (int r = 0; r < RESOURCES; r++) {
            seen.append("; resource ").append(r).append(':');
            for (int what = 0; what < 3; what++) {
                seen.append(' ').append(desk.resource(r, what));
            }
        }
    }

    private int addTickets() {
        int ticket = 1;
        for (int state = desk.ticket(1, 0); state != -1; state = desk.ticket(ticket, 0)) {
            seen.append("; ticket ").append(ticket).append(": ").append(state);
            for (int what = 1; what < 4; what++) {
                seen.append(' ').append(desk.ticket(ticket, what));
            }
            ticket++;
        }
        return ticket - 1;
    }

    private int addTokens(int first) {
        int token = first;
        for (int good = desk.token(token, 0); good != -1; good = desk.token(token, 0)) {
            seen.append("; token ").append(token).append(": ").append(good);
            for (int what = 1; what < 4; what++) {
                seen.append(' ').append(desk.token(token, what));
            }
            token++;
        }
        return token - 1;
    }

    /** The first keys, for resources that are likely to be theirs. */
    private void addIntrospections(int firstToken, int lastToken) {
        for (int token = firstToken; token <= lastToken; token++) {
            for (int r = 0; r < 4; r++) {
                for (int key = 1; key <= 2; key++) {
                    int t = token;
                    int k = key;
                    int number = r;
                    add("introspect", () -> desk.introspect(k, t, number));
                }
            }
        }
    }

    /** The last tickets tell what claims, permissions and rules come to. */
    private void addRedemptions(int tickets) {
        for (int ticket = Math.max(1, tickets - 3); ticket <= tickets; ticket++) {
            for (int client = CLIENTS - 1; client >= 0; client--) {
                int t = ticket;
                int c = client;
                add("redeem", () -> desk.redeem(c, t, t % 2 == 0 ? EVERY_SCOPE : 0, 0));
            }
        }
    }

    /** Which keys speak, and what numbers come next. */
    private void addKeys() {
        add("register", () -> desk.register(1, 1));
        for (int owner = 0; owner < OWNERS; owner++) {
            int o = owner;
            add("key", () -> desk.key(o));
        }
        for (int key = 1; key <= KEYS; key++) {
            seen.append("; revoke ").append(desk.revoke(key));
        }
    }

    private void add(String name, IntSupplier call) {
        seen.append("; ").append(name).append(' ');
        try {
            seen.append(call.getAsInt());
        } catch (RuntimeException thrown) {
            seen.append(thrown.getClass().getSimpleName());
        }
    }
}
