import java.math.BigInteger;
import java.util.ArrayList;
import java.util.Arrays;
import java.util.List;
import java.util.regex.Matcher;
import java.util.regex.Pattern;

/**
 * The document once more, written for plainness alone and with the Java library, to be compared with
 * the program. It shares no code with it.
 */
final class Model {
    static final int NONE = -1, UNKNOWN = -2, OUTSIDE = -3, NOT = -4, FULL = -5;
    static final int IDLE = 0, ASKED = 1, RETRIED = 2, GREETED = 3, JOINED = 4, FAILED = 5;
    private static final long[] PRIME = {23, 47, 59, 97};
    private static final long[] BASE = {5, 5, 2, 5};

    /** What a side has. */
    static final class Half {
        int versions = 7, groups = 15, secret, state, reason, digest = 1;
        int version, group, resumed, key, main;
        int[] epoch = new int[2], count = new int[2];
    }

    record Ticket(int number, int life, int since, int value, int add) {
        int tell(int what) {
            return new int[] {number, life, since, value, add}[what];
        }
    }

    record Seen(int number, int binder) { }

    final Half[] half = {new Half(), new Half()};
    final List<List<int[]>> way = List.of(new ArrayList<>(), new ArrayList<>());
    final int[][] places = new int[4][];
    final List<Ticket> tickets = new ArrayList<>();
    final List<Seen> seen = new ArrayList<>();
    StringBuilder text = new StringBuilder();
    Ticket held;
    int guess, early = NONE, now, made;
    boolean retryCame;
    int askedGroup;
    Ticket askedTicket;
    int earlyCount, earlySum, gone;
    final int[] letters = new int[2], told = new int[2];

    Model() {
        half[0].secret = 3;
        half[1].secret = 4;
    }

    static int mix(int h, int... xs) {
        int y = h;
        for (int x : xs) {
            y = (int) ((long) (y ^ x) * 16777619L);
            y = y ^ (int) ((y & 0xffffffffL) >> 15);
        }
        return y;
    }

    static int share(int group, int s) {
        return BigInteger.valueOf(BASE[group]).modPow(BigInteger.valueOf(s), BigInteger.valueOf(PRIME[group])).intValue();
    }

    static int common(int group, int share, int s) {
        return BigInteger.valueOf(share).modPow(BigInteger.valueOf(s), BigInteger.valueOf(PRIME[group])).intValue();
    }

    static int binder(int value, int digest, int[] m) {
        return mix(mix(value, digest), Arrays.copyOf(m, 7));
    }

    static int key(int group, int share, int s, int value) {
        return mix(7, common(group, share, s), value);
    }

    static int lock(Half a, int w) {
        return mix(a.main, w, a.epoch[w]);
    }

    static boolean groupOf(int set, int g) {
        return g >= 0 && g < 4 && (set & 1 << g) != 0;
    }

    static boolean versionOf(int set, int v) {
        return v >= 1 && v < 4 && (set & 1 << v - 1) != 0;
    }

    static boolean aboveOf(int set, int v) {
        boolean found = false;
        for (int w = v + 1; w <= 3; w++) {
            found |= versionOf(set, w);
        }
        return found;
    }

    void takeIn(Half a, int[] m) {
        a.digest = mix(a.digest, m[0] == 3 ? Arrays.copyOf(m, 7) : m);
    }

    void send(int to, int... m) {
        if (way.get(to).size() == 8) {
            gone++;
        } else {
            way.get(to).add(Arrays.copyOf(m, 9));
        }
    }

    static void fail(Half a, int reason) {
        a.state = FAILED;
        a.reason = reason;
    }

    static void join(Half a) {
        a.state = JOINED;
        a.main = mix(a.key, a.digest);
        a.epoch = new int[2];
        a.count = new int[2];
    }

    void makeHello(int group) {
        Half c = half[0];
        int[] m = {1, c.versions, c.groups, group, share(group, c.secret), 0, 0, 0, -1};
        if (held != null) {
            m[5] = held.number;
            m[6] = now - held.since + held.add;
            m[7] = binder(held.value, c.digest, m);
            m[8] = retryCame ? -1 : early;
        }
        askedGroup = group;
        askedTicket = held;
        takeIn(c, m);
        send(1, m);
    }

    void toClient(int[] m) {
        Half c = half[0];
        if (c.state == ASKED && m[0] == 2) {
            if (!groupOf(c.groups, m[1]) || m[1] == askedGroup || retryCame) {
                fail(c, 4);
            } else {
                retryCame = true;
                takeIn(c, m);
                makeHello(m[1]);
            }
        } else if (c.state == ASKED && m[0] == 3) {
            greeting(c, m);
        } else if (c.state == JOINED && m[0] == 5) {
            held = new Ticket(m[1], m[3], now, mix(c.main, m[1]), m[2]);
        } else {
            joinedOnly(0, m);
        }
    }

    void greeting(Half c, int[] m) {
        if (!versionOf(c.versions, m[1])) {
            fail(c, 2);
        } else if (m[2] != askedGroup) {
            fail(c, 4);
        } else if (m[4] != 0 && aboveOf(c.versions, m[1])) {
            fail(c, 7);
        } else if (m[3] < 1 || m[3] > PRIME[m[2]] - 1) {
            fail(c, 5);
        } else if (m[5] != 0 && askedTicket == null) {
            fail(c, 6);
        } else {
            c.version = m[1];
            c.group = m[2];
            c.resumed = m[5] != 0 ? 1 : 0;
            c.key = key(m[2], m[3], c.secret, m[5] != 0 ? askedTicket.value : 0);
            takeIn(c, m);
            if (m[7] != mix(c.key, c.digest, 1)) {
                fail(c, 8);
            } else {
                send(1, 4, mix(c.key, c.digest, 2));
                join(c);
            }
        }
    }

    void toServer(int[] m) {
        Half s = half[1];
        if ((s.state == IDLE || s.state == RETRIED) && m[0] == 1) {
            hello(s, m);
        } else if (s.state == GREETED && m[0] == 4) {
            if (m[1] != mix(s.key, s.digest, 2)) {
                fail(s, 8);
            } else {
                join(s);
            }
        } else {
            joinedOnly(1, m);
        }
    }

    void hello(Half s, int[] m) {
        int version = 0;
        for (int v = 1; v <= 3; v++) {
            if (versionOf(m[1], v) && versionOf(s.versions, v)) {
                version = v;
            }
        }
        int liked = -1;
        for (int g = 0; g < 4; g++) {
            if (groupOf(m[2], g) && groupOf(s.groups, g)) {
                liked = g;
            }
        }
        if (version == 0) {
            fail(s, 2);
        } else if (liked < 0) {
            fail(s, 3);
        } else if (m[3] != liked && s.state == RETRIED) {
            fail(s, 4);
        } else if (m[3] != liked) {
            takeIn(s, m);
            int[] retry = {2, liked, 0, 0, 0, 0, 0, 0, 0};
            send(0, retry);
            takeIn(s, retry);
            s.state = RETRIED;
        } else if (m[4] < 1 || m[4] >= PRIME[liked]) {
            fail(s, 5);
        } else {
            accept(s, m, version, liked);
        }
    }

    void accept(Half s, int[] m, int version, int liked) {
        Ticket of = tickets.stream().filter(t -> version == 3 && t.number == m[5] && now - t.since <= t.life)
                .findFirst().orElse(null);
        if (of != null && m[7] != binder(of.value, s.digest, m)) {
            fail(s, 6);
            return;
        }
        boolean taken = false;
        if (of != null && m[8] >= 0 && s.state == IDLE) {
            long off = (long) (m[6] - of.add) - (now - of.since);
            taken = off >= -2 && off <= 2 && !seen.contains(new Seen(of.number, m[7]));
        }
        if (taken) {
            if (seen.size() == 4) {
                seen.remove(0);
            }
            seen.add(new Seen(of.number, m[7]));
            earlyCount++;
            earlySum += m[8];
        }
        takeIn(s, m);
        s.version = version;
        s.group = liked;
        s.resumed = of != null ? 1 : 0;
        s.key = key(liked, m[4], s.secret, of != null ? of.value : 0);
        int[] g = {3, version, liked, share(liked, s.secret), aboveOf(s.versions, version) ? 1 : 0,
            s.resumed, taken ? 1 : 0, 0, 0};
        takeIn(s, g);
        g[7] = mix(s.key, s.digest, 1);
        send(0, g);
        s.state = GREETED;
    }

    void joinedOnly(int to, int[] m) {
        Half a = half[to];
        if (a.state == FAILED) {
            return;
        }
        if (a.state != JOINED || m[0] != 6 && m[0] != 7) {
            fail(a, 1);
        } else if (m[0] == 6 && m[2] == mix(lock(a, to), m[1], a.count[to])) {
            letters[to]++;
            told[to] += m[1] ^ mix(lock(a, to), a.count[to]) & 0x3ff;
            a.count[to]++;
        } else if (m[0] == 7 && m[1] == mix(lock(a, to), -1, a.count[to])) {
            a.epoch[to]++;
            a.count[to]++;
        } else {
            fail(a, 9);
        }
    }

    // ---- the text

    private static final Pattern TOKEN = Pattern.compile("[a-z]+|[0-9]+|[^ ]", Pattern.DOTALL);

    record Token(String letters, int place) { }

    record Clause(String word, int first, int second) { }

    /** Reads the text into clauses: the place of the fault, or NONE. */
    int read(List<Clause> clauses) {
        List<Token> tokens = new ArrayList<>();
        Matcher m = TOKEN.matcher(text);
        while (m.find()) {
            tokens.add(new Token(m.group(), m.start()));
        }
        int at = 0;
        while (true) {
            if (at == tokens.size()) {
                return text.length();
            }
            String word = tokens.get(at).letters;
            int[][] ranges = switch (word) {
                case "client", "server" -> new int[][] {{1, 7}, {1, 15}};
                case "secret" -> new int[][] {{0, 1}, {1, 999}};
                case "guess" -> new int[][] {{0, 3}};
                case "early" -> new int[][] {{0, 999}};
                default -> null;
            };
            if (ranges == null) {
                return tokens.get(at).place;
            }
            at++;
            int[] values = new int[2];
            for (int i = 0; i < ranges.length; i++, at++) {
                if (at == tokens.size()) {
                    return text.length();
                }
                String number = tokens.get(at).letters;
                if (!number.matches("[0-9]{1,3}") || Integer.parseInt(number) < ranges[i][0]
                        || Integer.parseInt(number) > ranges[i][1]) {
                    return tokens.get(at).place;
                }
                values[i] = Integer.parseInt(number);
            }
            clauses.add(new Clause(word, values[0], values[1]));
            if (at == tokens.size()) {
                return NONE;
            }
            if (!tokens.get(at).letters.equals(";") || clauses.size() == 24) {
                return tokens.get(at).place;
            }
            at++;
        }
    }

    int settings() {
        List<Clause> clauses = new ArrayList<>();
        if (read(clauses) != NONE) {
            return NOT;
        }
        for (Clause c : clauses) {
            switch (c.word) {
                case "client", "server" -> {
                    half[c.word.equals("client") ? 0 : 1].versions = c.first;
                    half[c.word.equals("client") ? 0 : 1].groups = c.second;
                }
                case "secret" -> half[c.first].secret = c.second;
                case "guess" -> guess = c.first;
                default -> early = c.first;
            }
        }
        text = new StringBuilder();
        return clauses.size();
    }

    // ---- the calls

    private static boolean in(int x, int least, int most) {
        return x >= least && x <= most;
    }

    int call(String name, int a, int b, int c) {
        return switch (name) {
            case "type", "erase", "fault", "settings", "offer", "secret", "guess", "early" -> tell(name, a, b, c);
            case "hello", "step", "ticket", "forget", "say", "update", "fresh", "pass" -> act(name, a, b);
            case "alter", "drop", "copy", "inject" -> between(name, a, b, c);
            default -> ask(name, a, b);
        };
    }

    private int tell(String name, int a, int b, int c) {
        switch (name) {
            case "type":
                if (!in(a, 0, 255)) {
                    return OUTSIDE;
                }
                if (text.length() == 200) {
                    return FULL;
                }
                text.append((char) a);
                return text.length();
            case "erase": {
                int had = text.length();
                text = new StringBuilder();
                return had;
            }
            case "fault":
                return read(new ArrayList<>());
            case "settings":
                return settings();
            case "offer": {
                if (!in(a, 0, 1)) {
                    return UNKNOWN;
                }
                if (!in(b, 1, 7) || !in(c, 1, 15)) {
                    return OUTSIDE;
                }
                int had = half[a].versions;
                half[a].versions = b;
                half[a].groups = c;
                return had;
            }
            case "secret": {
                if (!in(a, 0, 1)) {
                    return UNKNOWN;
                }
                if (!in(b, 1, 999)) {
                    return OUTSIDE;
                }
                int had = half[a].secret;
                half[a].secret = b;
                return had;
            }
            case "guess": {
                if (!in(a, 0, 3)) {
                    return OUTSIDE;
                }
                int had = guess;
                guess = a;
                return had;
            }
            default: {
                if (!in(a, -1, 999)) {
                    return OUTSIDE;
                }
                int had = early;
                early = a;
                return had;
            }
        }
    }

    private int act(String name, int a, int b) {
        boolean ofSide = List.of("step", "say", "update", "fresh").contains(name);
        if (ofSide && !in(a, 0, 1)) {
            return UNKNOWN;
        }
        switch (name) {
            case "hello": {
                Half c = half[0];
                if (c.state != IDLE) {
                    return NOT;
                }
                c.state = ASKED;
                retryCame = false;
                makeHello(groupOf(c.groups, guess) ? guess : Integer.numberOfTrailingZeros(c.groups));
                return way.get(1).size();
            }
            case "step": {
                if (way.get(a).isEmpty()) {
                    return NOT;
                }
                int[] m = way.get(a).remove(0);
                if (a == 0) {
                    toClient(m);
                } else {
                    toServer(m);
                }
                return m[0];
            }
            case "ticket": {
                Half s = half[1];
                if (!in(a, 0, 99)) {
                    return OUTSIDE;
                }
                if (s.state != JOINED || s.version != 3) {
                    return NOT;
                }
                made++;
                if (tickets.size() == 3) {
                    tickets.remove(0);
                }
                tickets.add(new Ticket(made, a, now, mix(s.main, made), mix(made, 77)));
                send(0, 5, made, mix(made, 77), a);
                return made;
            }
            case "forget": {
                if (held == null) {
                    return NOT;
                }
                int number = held.number;
                held = null;
                return number;
            }
            case "say": {
                Half s = half[a];
                if (!in(b, 0, 999)) {
                    return OUTSIDE;
                }
                if (s.state != JOINED) {
                    return NOT;
                }
                int w = 1 - a;
                int sealed = b ^ mix(lock(s, w), s.count[w]) & 0x3ff;
                send(w, 6, sealed, mix(lock(s, w), sealed, s.count[w]));
                s.count[w]++;
                return sealed;
            }
            case "update": {
                Half s = half[a];
                if (s.state != JOINED) {
                    return NOT;
                }
                int w = 1 - a;
                send(w, 7, mix(lock(s, w), -1, s.count[w]));
                s.count[w]++;
                return ++s.epoch[w];
            }
            case "fresh": {
                int was = half[a].state;
                half[a].state = IDLE;
                half[a].reason = 0;
                half[a].digest = 1;
                return was;
            }
            default:
                if (!in(a, 1, 99)) {
                    return OUTSIDE;
                }
                return now += a;
        }
    }

    private int between(String name, int a, int b, int c) {
        if (!in(a, 0, 1)) {
            return UNKNOWN;
        }
        List<int[]> to = way.get(a);
        switch (name) {
            case "alter": {
                if (!in(b, 0, 8)) {
                    return OUTSIDE;
                }
                if (to.isEmpty()) {
                    return NOT;
                }
                int was = to.get(0)[b];
                to.get(0)[b] = c;
                return was;
            }
            case "drop":
                if (to.isEmpty()) {
                    return NOT;
                }
                to.remove(0);
                return to.size();
            case "copy":
                if (!in(b, 0, 3)) {
                    return UNKNOWN;
                }
                if (to.isEmpty()) {
                    return NOT;
                }
                places[b] = to.get(0).clone();
                return places[b][0];
            default:
                if (!in(b, 0, 3)) {
                    return UNKNOWN;
                }
                if (places[b] == null) {
                    return NOT;
                }
                if (to.size() == 8) {
                    return FULL;
                }
                to.add(places[b].clone());
                return to.size();
        }
    }

    private int ask(String name, int a, int b) {
        switch (name) {
            case "side":
                if (!in(a, 0, 1)) {
                    return UNKNOWN;
                }
                return in(b, 0, 11) ? side(half[a], b) : OUTSIDE;
            case "message":
                if (!in(a, 0, 1)) {
                    return UNKNOWN;
                }
                if (!in(b, 0, 8)) {
                    return OUTSIDE;
                }
                return way.get(a).isEmpty() ? NOT : way.get(a).get(0)[b];
            case "kept":
                if (!in(a, 0, tickets.size() - 1)) {
                    return UNKNOWN;
                }
                return in(b, 0, 4) ? tickets.get(a).tell(b) : OUTSIDE;
            case "held":
                if (!in(a, 0, 4)) {
                    return OUTSIDE;
                }
                return held == null ? NOT : held.tell(a);
            case "share":
                if (!in(a, 0, 3)) {
                    return UNKNOWN;
                }
                return in(b, 1, 999) ? share(a, b) : OUTSIDE;
            default:
                return count(a);
        }
    }

    private static int side(Half a, int what) {
        int[] open = {a.state, a.state == FAILED ? a.reason : 0, a.state == IDLE ? 1 : a.digest};
        int[] joined = {a.version, a.group, a.resumed, a.key, a.main, a.epoch[0], a.epoch[1], a.count[0], a.count[1]};
        if (what < 3) {
            return open[what];
        }
        return a.state == JOINED ? joined[what - 3] : NONE;
    }

    private int count(int what) {
        int[] all = {now, way.get(0).size(), way.get(1).size(), tickets.size(), seen.size(), earlyCount, earlySum,
            letters[0], letters[1], told[0], told[1], text.length(), gone};
        return in(what, 0, 12) ? all[what] : OUTSIDE;
    }
}
