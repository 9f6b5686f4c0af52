import java.util.ArrayList;
import java.util.NoSuchElementException;

/**
 * Decides who may use what: resources and the rules on them, one-time tickets for what is asked,
 * claims that are pushed onto a ticket, and tokens that are given for a ticket.
 */
public final class GrantDesk {
    private static final int OWNERS = 3;
    private static final int CLIENTS = 3;
    private static final int EVERY_SCOPE = 15;
    private static final int KINDS = 12;
    private static final int VALUES = 100;

    private static final int MAX_KEYS = 12;
    private static final int MAX_RESOURCES = 12;
    private static final int MAX_RULES = 4;
    private static final int MAX_TICKETS = 60;
    private static final int MAX_TICK = 100;

    private static final int TICKET_TICKS = 10;
    private static final int TOKEN_TICKS = 30;

    /** Stands for no owner, no client, no other resource, no claim, no place and no answer. */
    private static final int NONE = -1;

    /** In this order ALL is the least of its two, ANY the greatest, and NOT the mirror image. */
    private static final int FALSE = 0;
    private static final int OPEN = 1;
    private static final int TRUE = 2;

    /** The owner that each key speaks for, NONE once it is revoked. */
    private final int[] keyOwners = new int[MAX_KEYS];
    private int keyCount = 0;

    /** Resources that were taken out stay in their places, since numbers are not given again. */
    private final ArrayList<Resource> resources = new ArrayList<>();
    private final ArrayList<Ticket> tickets = new ArrayList<>();
    private final ArrayList<Token> tokens = new ArrayList<>();
    private int clock = 0;

    public GrantDesk() {
    }

    public int key(int owner) throws IllegalArgumentException, IllegalStateException {
        if (owner < 0 || owner >= OWNERS) {
            throw new IllegalArgumentException("no such owner");
        }
        if (keyCount >= MAX_KEYS) {
            throw new IllegalStateException("there were 12 keys");
        }
        keyOwners[keyCount] = owner;
        keyCount++;
        return keyCount;
    }

    public boolean revoke(int key) {
        if (ownerOf(key) == NONE) {
            return false;
        }
        keyOwners[key - 1] = NONE;
        return true;
    }

    public int register(int key, int scopes)
            throws NoSuchElementException, IllegalArgumentException, IllegalStateException {
        int owner = ownerOf(key);
        if (owner == NONE) {
            throw new NoSuchElementException("keyless");
        }
        if (!areScopes(scopes)) {
            throw new IllegalArgumentException("scopes are not 1 .. 15");
        }
        if (resources.size() >= MAX_RESOURCES) {
            throw new IllegalStateException("there were 12 resources");
        }
        resources.add(new Resource(owner, scopes));
        return resources.size() - 1;
    }

    public int rescope(int key, int r, int scopes)
            throws NoSuchElementException, IllegalArgumentException {
        Resource resource = ownResource(key, r);
        if (!areScopes(scopes)) {
            throw new IllegalArgumentException("scopes are not 1 .. 15");
        }
        int before = resource.scopes;
        resource.scopes = scopes;
        return before;
    }

    public int remove(int key, int r) throws NoSuchElementException {
        Resource resource = ownResource(key, r);
        resource.registered = false;
        return resource.dropRules();
    }

    public int rule(int key, int r, int scopes, long text)
            throws NoSuchElementException, IllegalArgumentException, IllegalStateException {
        Resource resource = ownResource(key, r);
        if (!areScopes(scopes) || !Text.isText(text)) {
            throw new IllegalArgumentException("scopes are not 1 .. 15, or the text is none");
        }
        if (resource.ruleCount >= MAX_RULES) {
            throw new IllegalStateException("the resource has 4 rules");
        }
        return resource.addRule(scopes, text);
    }

    public int clear(int key, int r) throws NoSuchElementException {
        return ownResource(key, r).dropRules();
    }

    public int ask(int key, int r, int scopes, int other, int more)
            throws NoSuchElementException, IllegalArgumentException, IllegalStateException {
        Resource first = ownResource(key, r);
        Resource second = other == NONE ? null : ownResource(key, other);
        if (other == r || !first.hasScopes(scopes) || (second != null && !second.hasScopes(more))) {
            throw new IllegalArgumentException("the same resource twice, or no scopes of it");
        }
        if (ticketsAreOut()) {
            throw new IllegalStateException("there were 60 tickets");
        }
        int[] permissions = new int[MAX_RESOURCES];
        permissions[r] = scopes;
        if (second != null) {
            permissions[other] = more;
        }
        int[] claims = new int[KINDS];
        for (int kind = 0; kind < KINDS; kind++) {
            claims[kind] = NONE;
        }
        tickets.add(new Ticket(permissions, claims, NONE, clock + TICKET_TICKS));
        return tickets.size();
    }

    public int push(int client, int ticket, int kind, int value, int seal)
            throws IllegalArgumentException, IllegalStateException, UnsupportedOperationException {
        if (!isClient(client) || kind < 0 || kind >= KINDS || value < 0 || value >= VALUES) {
            throw new IllegalArgumentException("no such client, kind or value");
        }
        Ticket old = acceptable(client, ticket);
        if (old == null || ticketsAreOut()) {
            throw new IllegalStateException("the ticket is not accepted, or there were 60");
        }
        if (seal != sealOf(kind, value)) {
            throw new UnsupportedOperationException("the seal is not the claim's");
        }
        Ticket fresh = rotate(old, client);
        fresh.claims[kind] = value;
        return tickets.size();
    }

    public int redeem(int client, int ticket, int scopes, int token)
            throws IllegalArgumentException, IllegalStateException, UnsupportedOperationException {
        Token held = goodTokenOf(client, token);
        if (!isClient(client) || scopes < 0 || scopes > EVERY_SCOPE || (token != 0 && held == null)) {
            throw new IllegalArgumentException("no such client or scopes, or no good token of it");
        }
        Ticket old = acceptable(client, ticket);
        if (old == null) {
            throw new IllegalStateException("the ticket is not accepted");
        }
        int[] asked = askedOf(old, scopes);
        int[] granted = ruled(asked, TRUE, old.claims);
        if (hasAny(granted)) {
            old.use(client);
            return give(client, granted, held);
        }
        if (!hasAny(ruled(asked, OPEN, old.claims))) {
            old.use(client);
            throw new UnsupportedOperationException("nothing is granted, and no rule is open");
        }
        if (ticketsAreOut()) {
            throw new IllegalStateException("the ticket would be rotated, and there were 60");
        }
        rotate(old, client);
        return -tickets.size();
    }

    public int introspect(int key, int token, int r) throws NoSuchElementException {
        Resource resource = ownResource(key, r);
        Token found = goodToken(token);
        return found == null ? 0 : found.scopes[r] & resource.scopes;
    }

    public boolean drop(int client, int token) {
        Token found = goodTokenOf(client, token);
        if (found == null) {
            return false;
        }
        found.dropped = true;
        return true;
    }

    public int tick(int n) throws IllegalArgumentException {
        if (n < 0 || n > MAX_TICK) {
            throw new IllegalArgumentException("n is not 0 .. 100");
        }
        clock += n;
        return clock;
    }

    public int resource(int r, int what) {
        Resource found = registeredResource(r);
        if (found == null) {
            return NONE;
        }
        switch (what) {
            case 0: return found.owner;
            case 1: return found.scopes;
            case 2: return found.ruleCount;
            default: return NONE;
        }
    }

    public int ticket(int ticket, int what) {
        Ticket found = ticketNumbered(ticket);
        if (found == null) {
            return NONE;
        }
        switch (what) {
            case 0: return found.state(clock);
            case 1: return found.client + 1;
            case 2: return found.kinds();
            case 3: return found.end;
            default: return NONE;
        }
    }

    public int token(int token, int what) {
        Token found = tokenNumbered(token);
        if (found == null) {
            return NONE;
        }
        switch (what) {
            case 0: return found.isGood(clock) ? 1 : 0;
            case 1: return found.client;
            case 2: return found.end;
            case 3: return found.resourceCount();
            default: return NONE;
        }
    }

    private static boolean areScopes(int scopes) {
        return scopes >= 1 && scopes <= EVERY_SCOPE;
    }

    private static boolean isClient(int client) {
        return client >= 0 && client < CLIENTS;
    }

    private static int sealOf(int kind, int value) {
        return ((kind + 3) * 1009 + value * 101) % 9973;
    }

    private static boolean hasAny(int[] scopesOfEach) {
        for (int r = 0; r < scopesOfEach.length; r++) {
            if (scopesOfEach[r] != 0) {
                return true;
            }
        }
        return false;
    }

    /** The owner that the key speaks for, NONE when it is keyless. */
    private int ownerOf(int key) {
        return key < 1 || key > keyCount ? NONE : keyOwners[key - 1];
    }

    private Resource registeredResource(int r) {
        if (r < 0 || r >= resources.size()) {
            return null;
        }
        Resource found = resources.get(r);
        return found.registered ? found : null;
    }

    /** A keyless number has the owner NONE, which no resource has. */
    private Resource ownResource(int key, int r) {
        Resource found = registeredResource(r);
        if (found == null || found.owner != ownerOf(key)) {
            throw new NoSuchElementException("keyless, or no such resource of the key's owner");
        }
        return found;
    }

    private Ticket ticketNumbered(int number) {
        return number < 1 || number > tickets.size() ? null : tickets.get(number - 1);
    }

    private Token tokenNumbered(int number) {
        return number < 1 || number > tokens.size() ? null : tokens.get(number - 1);
    }

    private Token goodToken(int number) {
        Token found = tokenNumbered(number);
        return found != null && found.isGood(clock) ? found : null;
    }

    private Token goodTokenOf(int client, int number) {
        Token found = goodToken(number);
        return found != null && found.client == client ? found : null;
    }

    private boolean ticketsAreOut() {
        return tickets.size() >= MAX_TICKETS;
    }

    /** Binds nothing yet: a call that is refused later must leave the ticket as it was. */
    private Ticket acceptable(int client, int number) {
        Ticket found = ticketNumbered(number);
        return found != null && found.isLive(clock) && found.isFreeFor(client) ? found : null;
    }

    private Ticket rotate(Ticket old, int client) {
        old.use(client);
        Ticket fresh = new Ticket(old.permissions, old.claims.clone(), client, clock + TICKET_TICKS);
        tickets.add(fresh);
        return fresh;
    }

    /** What is asked of each resource; the ticket's own scopes count even if a rescope took them. */
    private int[] askedOf(Ticket ticket, int scopes) {
        int[] asked = new int[MAX_RESOURCES];
        for (int r = 0; r < MAX_RESOURCES; r++) {
            Resource resource = registeredResource(r);
            if (resource != null && ticket.permissions[r] != 0) {
                asked[r] = ticket.permissions[r] | (scopes & resource.scopes);
            }
        }
        return asked;
    }

    /** Of what is asked of each resource, the scopes of its rules that come to this truth. */
    private int[] ruled(int[] asked, int truth, int[] claims) {
        int[] scopes = new int[MAX_RESOURCES];
        for (int r = 0; r < MAX_RESOURCES; r++) {
            Resource resource = registeredResource(r);
            if (resource != null) {
                scopes[r] = asked[r] & resource.scopesOfRules(truth, claims, clock);
            }
        }
        return scopes;
    }

    /** The number of a new token with what is granted and what the held one, if any, still has. */
    private int give(int client, int[] granted, Token held) {
        int[] scopes = granted.clone();
        for (int r = 0; r < MAX_RESOURCES; r++) {
            Resource resource = registeredResource(r);
            if (held != null && resource != null) {
                scopes[r] |= held.scopes[r] & resource.scopes;
            }
        }
        tokens.add(new Token(client, scopes, clock + TOKEN_TICKS));
        return tokens.size();
    }

    private static final class Resource {
        final int owner;
        int scopes;
        boolean registered = true;
        final int[] ruleScopes = new int[MAX_RULES];
        final long[] ruleTexts = new long[MAX_RULES];
        int ruleCount = 0;

        Resource(int owner, int scopes) {
            this.owner = owner;
            this.scopes = scopes;
        }

        boolean hasScopes(int some) {
            return areScopes(some) && (some & ~scopes) == 0;
        }

        /** A full resource takes no rule, so that the rows are never left. */
        int addRule(int scopesOfRule, long text) {
            if (ruleCount < MAX_RULES) {
                ruleScopes[ruleCount] = scopesOfRule;
                ruleTexts[ruleCount] = text;
                ruleCount++;
            }
            return ruleCount;
        }

        int dropRules() {
            int before = ruleCount;
            ruleCount = 0;
            return before;
        }

        int scopesOfRules(int truth, int[] claims, int clock) {
            int found = 0;
            for (int i = 0; i < ruleCount; i++) {
                if (Text.truth(ruleTexts[i], 0, claims, clock) == truth) {
                    found |= ruleScopes[i];
                }
            }
            return found;
        }
    }

    private static final class Ticket {
        /** For each resource the scopes asked, 0 for none; rotated tickets share the row. */
        final int[] permissions;
        /** For each kind the claim's value, or NONE. */
        final int[] claims;
        final int end;
        int client;
        boolean used = false;

        Ticket(int[] permissions, int[] claims, int client, int end) {
            this.permissions = permissions;
            this.claims = claims;
            this.client = client;
            this.end = end;
        }

        boolean isLive(int clock) {
            return !used && clock < end;
        }

        boolean isFreeFor(int someClient) {
            return client == NONE || client == someClient;
        }

        void use(int byClient) {
            client = byClient;
            used = true;
        }

        int state(int clock) {
            if (used) {
                return 2;
            }
            return isLive(clock) ? 1 : 3;
        }

        int kinds() {
            int bits = 0;
            for (int kind = 0; kind < KINDS; kind++) {
                if (claims[kind] != NONE) {
                    bits |= 1 << kind;
                }
            }
            return bits;
        }
    }

    private static final class Token {
        final int client;
        /** For each resource the scopes as they were given, 0 for none. */
        final int[] scopes;
        final int end;
        boolean dropped = false;

        Token(int client, int[] scopes, int end) {
            this.client = client;
            this.scopes = scopes;
            this.end = end;
        }

        boolean isGood(int clock) {
            return !dropped && clock < end;
        }

        int resourceCount() {
            int count = 0;
            for (int r = 0; r < MAX_RESOURCES; r++) {
                if (scopes[r] != 0) {
                    count++;
                }
            }
            return count;
        }
    }

    /** Predicates, read straight from the bytes of their text so that no tree must be kept. */
    private static final class Text {
        private static final int BYTES = 8;
        private static final int ALL = 1;
        private static final int ANY = 2;
        private static final int NOT = 3;
        private static final int IS = 4;
        private static final int BELOW = 5;
        private static final int SINCE = 6;
        private static final int EVER = 7;

        static boolean isText(long text) {
            int end = behind(text, 0);
            if (end == NONE) {
                return false;
            }
            // A shift by 64 would be none at all, so a full text is told apart.
            return end == BYTES || text >>> (8 * end) == 0;
        }

        private static int byteAt(long text, int at) {
            return (int) (text >>> (8 * at)) & 255;
        }

        private static int signAt(long text, int at) {
            return byteAt(text, at) & 7;
        }

        private static int restAt(long text, int at) {
            return byteAt(text, at) >> 3;
        }

        /** The place behind the predicate at a place, or NONE; places only rise, so it ends. */
        private static int behind(long text, int at) {
            if (at < 0 || at >= BYTES) {
                return NONE;
            }
            int sign = signAt(text, at);
            int rest = restAt(text, at);
            if (sign == IS || sign == BELOW) {
                return rest < KINDS ? behindValue(text, at + 1) : NONE;
            }
            if (rest != 0) {
                return NONE;
            }
            switch (sign) {
                case ALL:
                case ANY: return behind(text, behind(text, at + 1));
                case NOT: return behind(text, at + 1);
                case SINCE: return behindValue(text, at + 1);
                case EVER: return at + 1;
                default: return NONE;
            }
        }

        private static int behindValue(long text, int at) {
            return at < BYTES && byteAt(text, at) < VALUES ? at + 1 : NONE;
        }

        /** What the predicate at a place comes to; the guard alone answers for what is no text. */
        private static int truth(long text, int at, int[] claims, int clock) {
            if (at < 0 || at >= BYTES) {
                return FALSE;
            }
            int next = at + 1;
            switch (signAt(text, at)) {
                case ALL: return Math.min(truth(text, next, claims, clock),
                        truth(text, behind(text, next), claims, clock));
                case ANY: return Math.max(truth(text, next, claims, clock),
                        truth(text, behind(text, next), claims, clock));
                case NOT: return TRUE - truth(text, next, claims, clock);
                case SINCE: return truthOf(clock >= byteAt(text, next));
                case EVER: return TRUE;
                default: return truthOnClaim(text, at, claims);
            }
        }

        private static int truthOnClaim(long text, int at, int[] claims) {
            int kind = restAt(text, at);
            if (kind >= claims.length || claims[kind] == NONE) {
                return OPEN;
            }
            int value = byteAt(text, at + 1);
            boolean is = signAt(text, at) == IS;
            return truthOf(is ? claims[kind] == value : claims[kind] < value);
        }

        private static int truthOf(boolean holds) {
            return holds ? TRUE : FALSE;
        }
    }
}
