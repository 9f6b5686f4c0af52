import java.util.ArrayList;
import java.util.HashMap;
import java.util.List;
import java.util.Map;
import java.util.NoSuchElementException;
import java.util.TreeMap;

/** The document once more, written with maps and trees, to be compared with the program. */
final class Model {
    /** True, false, or null for OPEN. */
    private interface Predicate {
        Boolean on(Map<Integer, Integer> claims, int clock);
    }

    private record Rule(int scopes, Predicate predicate) {
    }

    private static final class Resource {
        int owner;
        int scopes;
        final List<Rule> rules = new ArrayList<>();
    }

    private static final class Ticket {
        Map<Integer, Integer> permissions = new TreeMap<>();
        Map<Integer, Integer> claims = new TreeMap<>();
        Integer client;
        boolean used;
        int end;
    }

    private static final class Token {
        int client;
        Map<Integer, Integer> scopes = new TreeMap<>();
        int end;
        boolean dropped;
    }

    private final Map<Integer, Integer> speaking = new HashMap<>();
    private final Map<Integer, Resource> registered = new HashMap<>();
    private final Map<Integer, Ticket> tickets = new HashMap<>();
    private final Map<Integer, Token> tokens = new HashMap<>();
    private int keysMade = 0;
    private int resourcesMade = 0;
    private int clock = 0;

    int key(int owner) {
        argument(0 <= owner && owner <= 2);
        state(keysMade < 12);
        speaking.put(++keysMade, owner);
        return keysMade;
    }

    boolean revoke(int key) {
        return speaking.remove(key) != null;
    }

    int register(int key, int scopes) {
        found(speaking.containsKey(key));
        argument(mask(scopes));
        state(resourcesMade < 12);
        Resource made = new Resource();
        made.owner = speaking.get(key);
        made.scopes = scopes;
        registered.put(resourcesMade, made);
        return resourcesMade++;
    }

    int rescope(int key, int r, int scopes) {
        Resource own = own(key, r);
        argument(mask(scopes));
        int had = own.scopes;
        own.scopes = scopes;
        return had;
    }

    int remove(int key, int r) {
        own(key, r);
        return registered.remove(r).rules.size();
    }

    int rule(int key, int r, int scopes, long text) {
        Resource own = own(key, r);
        argument(mask(scopes));
        Predicate predicate = new Reader(text).whole();
        argument(predicate != null);
        state(own.rules.size() < 4);
        own.rules.add(new Rule(scopes, predicate));
        return own.rules.size();
    }

    int clear(int key, int r) {
        Resource own = own(key, r);
        int had = own.rules.size();
        own.rules.clear();
        return had;
    }

    int ask(int key, int r, int scopes, int other, int more) {
        Resource one = own(key, r);
        Resource two = other == -1 ? null : own(key, other);
        argument(one != two);
        argument(mask(scopes) && (one.scopes | scopes) == one.scopes);
        argument(two == null || (mask(more) && (two.scopes | more) == two.scopes));
        state(tickets.size() < 60);
        Ticket made = new Ticket();
        made.permissions.put(r, scopes);
        if (two != null) {
            made.permissions.put(other, more);
        }
        return add(made);
    }

    int push(int client, int ticket, int kind, int value, int seal) {
        argument(client(client) && 0 <= kind && kind <= 11 && 0 <= value && value <= 99);
        state(accepted(client, ticket) && tickets.size() < 60);
        supported(seal == Math.floorMod((kind + 3) * 1009 + value * 101, 9973));
        int made = rotate(client, ticket);
        tickets.get(made).claims.put(kind, value);
        return made;
    }

    int redeem(int client, int ticket, int scopes, int token) {
        argument(client(client) && 0 <= scopes && scopes <= 15);
        argument(token == 0 || goodOf(client, token));
        state(accepted(client, ticket));
        Ticket old = tickets.get(ticket);
        Map<Integer, Integer> granted = new TreeMap<>();
        boolean open = false;
        for (int r : old.permissions.keySet()) {
            if (registered.containsKey(r)) {
                Resource resource = registered.get(r);
                int asked = old.permissions.get(r) | (scopes & resource.scopes);
                for (Rule rule : resource.rules) {
                    Boolean truth = rule.predicate.on(old.claims, clock);
                    open |= truth == null && (rule.scopes & asked) != 0;
                    if (truth != null && truth) {
                        give(granted, r, rule.scopes & asked);
                    }
                }
            }
        }
        if (granted.isEmpty() && open) {
            state(tickets.size() < 60);
            return -rotate(client, ticket);
        }
        old.client = client;
        old.used = true;
        supported(!granted.isEmpty());
        return give(client, granted, token);
    }

    int introspect(int key, int token, int r) {
        Resource own = own(key, r);
        return good(token) ? tokens.get(token).scopes.getOrDefault(r, 0) & own.scopes : 0;
    }

    boolean drop(int client, int token) {
        if (!goodOf(client, token)) {
            return false;
        }
        tokens.get(token).dropped = true;
        return true;
    }

    int tick(int n) {
        argument(0 <= n && n <= 100);
        clock += n;
        return clock;
    }

    int resource(int r, int what) {
        Resource seen = registered.get(r);
        if (seen == null || what < 0 || what > 2) {
            return -1;
        }
        return List.of(seen.owner, seen.scopes, seen.rules.size()).get(what);
    }

    int ticket(int ticket, int what) {
        Ticket seen = tickets.get(ticket);
        if (seen == null || what < 0 || what > 3) {
            return -1;
        }
        int kinds = seen.claims.keySet().stream().mapToInt(kind -> 1 << kind).sum();
        int life = seen.used ? 2 : clock >= seen.end ? 3 : 1;
        return List.of(life, seen.client == null ? 0 : seen.client + 1, kinds, seen.end).get(what);
    }

    int token(int token, int what) {
        Token seen = tokens.get(token);
        if (seen == null || what < 0 || what > 3) {
            return -1;
        }
        return List.of(good(token) ? 1 : 0, seen.client, seen.end, seen.scopes.size()).get(what);
    }

    private static void argument(boolean holds) {
        if (!holds) {
            throw new IllegalArgumentException();
        }
    }

    private static void state(boolean holds) {
        if (!holds) {
            throw new IllegalStateException();
        }
    }

    private static void supported(boolean holds) {
        if (!holds) {
            throw new UnsupportedOperationException();
        }
    }

    private static void found(boolean holds) {
        if (!holds) {
            throw new NoSuchElementException();
        }
    }

    private static boolean mask(int scopes) {
        return 1 <= scopes && scopes <= 15;
    }

    private static boolean client(int client) {
        return 0 <= client && client <= 2;
    }

    private Resource own(int key, int r) {
        found(speaking.containsKey(key));
        found(registered.containsKey(r));
        found(registered.get(r).owner == speaking.get(key));
        return registered.get(r);
    }

    private boolean accepted(int client, int ticket) {
        Ticket seen = tickets.get(ticket);
        return seen != null && !seen.used && clock < seen.end && (seen.client == null || seen.client == client);
    }

    private boolean good(int token) {
        Token seen = tokens.get(token);
        return seen != null && !seen.dropped && clock < seen.end;
    }

    private boolean goodOf(int client, int token) {
        return good(token) && tokens.get(token).client == client;
    }

    private int add(Ticket made) {
        made.end = clock + 10;
        tickets.put(tickets.size() + 1, made);
        return tickets.size();
    }

    private int rotate(int client, int ticket) {
        Ticket old = tickets.get(ticket);
        old.client = client;
        old.used = true;
        Ticket made = new Ticket();
        made.permissions.putAll(old.permissions);
        made.claims.putAll(old.claims);
        made.client = client;
        return add(made);
    }

    private static void give(Map<Integer, Integer> scopes, int r, int some) {
        if (some != 0) {
            scopes.merge(r, some, (a, b) -> a | b);
        }
    }

    private int give(int client, Map<Integer, Integer> granted, int token) {
        Token made = new Token();
        made.client = client;
        made.end = clock + 30;
        made.scopes.putAll(granted);
        if (token != 0) {
            tokens.get(token).scopes.forEach((r, some) -> {
                if (registered.containsKey(r)) {
                    give(made.scopes, r, some & registered.get(r).scopes);
                }
            });
        }
        tokens.put(tokens.size() + 1, made);
        return tokens.size();
    }

    /** Reads a text from its lowest byte on; null stands for no predicate. */
    private static final class Reader {
        private final long text;
        private int read = 0;

        Reader(long text) {
            this.text = text;
        }

        Predicate whole() {
            Predicate predicate = predicate();
            while (predicate != null && read < 8) {
                if (next() != 0) {
                    return null;
                }
            }
            return predicate;
        }

        private int next() {
            return read < 8 ? (int) (text >>> (8 * read++) & 0xff) : 0xff;
        }

        private Predicate predicate() {
            int sign = next();
            int kind = sign / 8;
            return switch (sign) {
                case 1, 2 -> pair(sign == 1, predicate(), predicate());
                case 3 -> not(predicate());
                case 6 -> since(next());
                case 7 -> (claims, clock) -> true;
                default -> (sign % 8 == 4 || sign % 8 == 5) && kind < 12 ? claim(kind, sign % 8 == 4, next()) : null;
            };
        }

        private static Predicate pair(boolean all, Predicate a, Predicate b) {
            if (a == null || b == null) {
                return null;
            }
            return (claims, clock) -> {
                Boolean x = a.on(claims, clock);
                Boolean y = b.on(claims, clock);
                if ((x != null && x != all) || (y != null && y != all)) {
                    return !all;
                }
                return x == null || y == null ? null : (Boolean) all;
            };
        }

        private static Predicate not(Predicate a) {
            return a == null ? null : (claims, clock) -> {
                Boolean x = a.on(claims, clock);
                return x == null ? null : (Boolean) !x;
            };
        }

        private static Predicate since(int begin) {
            return begin > 99 ? null : (claims, clock) -> clock >= begin;
        }

        private static Predicate claim(int kind, boolean is, int value) {
            return value > 99 ? null : (claims, clock) -> {
                Integer has = claims.get(kind);
                return has == null ? null : (Boolean) (is ? has == value : has < value);
            };
        }
    }
}
