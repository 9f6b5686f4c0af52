import java.util.function.IntSupplier;

/** Everything that can be seen of a desk; taking it may change the desk, so it is the last look. */
final class Snapshot {
    private static final int OWNERS = 3;
    private static final int CLIENTS = 3;
    private static final int KEYS_SEEN = 4;
    private static final int RESOURCES_SEEN = 4;

    private Snapshot() {
    }

    static String of(GrantDesk desk) {
        StringBuilder seen = new StringBuilder();
        seen.append("clock ").append(desk.tick(0));
        addResources(seen, desk);
        int tickets = addTickets(seen, desk);
        int tokens = addTokens(seen, desk);
        addIntrospections(seen, desk, tokens);
        addRedemptions(seen, desk, tickets);
        addNextNumbers(seen, desk);
        return seen.toString();
    }

    private static void addResources(StringBuilder seen, GrantDesk desk) {
        for (int r = 0; r < 12; r++) {
            if (desk.resource(r, 0) != -1) {
                seen.append("; resource ").append(r);
                for (int what = 0; what < 3; what++) {
                    seen.append(' ').append(desk.resource(r, what));
                }
            }
        }
    }

    private static int addTickets(StringBuilder seen, GrantDesk desk) {
        int ticket = 1;
        for (; desk.ticket(ticket, 0) != -1; ticket++) {
            seen.append("; ticket ").append(ticket);
            for (int what = 0; what < 4; what++) {
                seen.append(' ').append(desk.ticket(ticket, what));
            }
        }
        return ticket - 1;
    }

    private static int addTokens(StringBuilder seen, GrantDesk desk) {
        int token = 1;
        for (; desk.token(token, 0) != -1; token++) {
            seen.append("; token ").append(token);
            for (int what = 0; what < 4; what++) {
                seen.append(' ').append(desk.token(token, what));
            }
        }
        return token - 1;
    }

    private static void addIntrospections(StringBuilder seen, GrantDesk desk, int tokens) {
        for (int key = 1; key <= KEYS_SEEN; key++) {
            for (int r = 0; r < RESOURCES_SEEN; r++) {
                for (int token = 1; token <= Math.max(1, Math.min(tokens, 3)); token++) {
                    int k = key;
                    int t = token;
                    int number = r;
                    add(seen, "introspect", () -> desk.introspect(k, t, number));
                }
            }
        }
    }

    /** The last tickets tell what claims, permissions and rules come to. */
    private static void addRedemptions(StringBuilder seen, GrantDesk desk, int tickets) {
        for (int ticket = Math.max(1, tickets - 3); ticket <= tickets; ticket++) {
            for (int client = CLIENTS - 1; client >= 0; client--) {
                int t = ticket;
                int c = client;
                add(seen, "redeem", () -> desk.redeem(c, t, 0, 0));
            }
        }
        addTokens(seen, desk);
    }

    private static void addNextNumbers(StringBuilder seen, GrantDesk desk) {
        for (int owner = 0; owner < OWNERS; owner++) {
            int o = owner;
            add(seen, "key", () -> desk.key(o));
        }
        add(seen, "register", () -> desk.register(1, 1));
    }

    private static void add(StringBuilder seen, String name, IntSupplier call) {
        seen.append("; ").append(name).append(' ');
        try {
            seen.append(call.getAsInt());
        } catch (RuntimeException thrown) {
            seen.append(thrown.getClass().getSimpleName());
        }
    }
}
