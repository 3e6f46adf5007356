/** A handshake of toy numbers between a client and a server; ../shared/DOC.md says what each call does. */
public final class ToyGreeting {
    public static final int NONE = -1, UNKNOWN = -2, OUTSIDE = -3, NOT = -4, FULL = -5;

    private static final int CLIENT = 0, SERVER = 1;
    private static final int IDLE = 0, ASKED = 1, RETRIED = 2, GREETED = 3, JOINED = 4, FAILED = 5;

    private static final int BY_KIND = 1, BY_VERSION = 2, BY_NO_GROUP = 3, BY_GROUP = 4, BY_SHARE = 5;
    private static final int BY_TICKET = 6, BY_MARK = 7, BY_PROOF = 8, BY_TAG = 9;

    private static final int ALL_VERSIONS = 7, ALL_GROUPS = 15, LAST_GROUP = 3;
    private static final int MOST_SECRET = 999, MOST_TOLD = 999, MOST_LIFE = 99, MOST_PASS = 99;
    private static final int MOST_LETTER = 255, LAST_OF_SIDE = 11, PLACES = 4;

    private final Client client = new Client();
    private final Server server = new Server();
    private final Road toClient = new Road();
    private final Road toServer = new Road();
    private final Message arrived = new Message();
    private final Message[] copies = new Message[PLACES];
    private final boolean[] copied = new boolean[PLACES];
    private final Text text = new Text();
    private int now;

    public ToyGreeting() {
        for (int i = 0; i < PLACES; i++) {
            copies[i] = new Message();
        }
    }

    // ---- what is told

    public int type(int letter) {
        if (letter < 0 || letter > MOST_LETTER) {
            return OUTSIDE;
        }
        return text.add(letter) ? text.length : FULL;
    }

    public int erase() {
        int had = text.length;
        text.length = 0;
        return had;
    }

    public int fault() {
        return text.read();
    }

    public int settings() {
        if (text.read() != NONE) {
            return NOT;
        }
        int done = text.clauses;
        for (int i = 0; i < done; i++) {
            apply(text.kindOf(i), text.firstOf(i), text.secondOf(i));
        }
        text.length = 0;
        return done;
    }

    public int offer(int side, int versions, int groups) {
        if (!isSide(side)) {
            return UNKNOWN;
        }
        if (versions < 1 || versions > ALL_VERSIONS || groups < 1 || groups > ALL_GROUPS) {
            return OUTSIDE;
        }
        Peer peer = peerOf(side);
        int had = peer.versions;
        peer.versions = versions;
        peer.groups = groups;
        return had;
    }

    public int secret(int side, int s) {
        if (!isSide(side)) {
            return UNKNOWN;
        }
        if (s < 1 || s > MOST_SECRET) {
            return OUTSIDE;
        }
        Peer peer = peerOf(side);
        int had = peer.secret;
        peer.secret = s;
        return had;
    }

    public int guess(int group) {
        if (!isGroup(group)) {
            return OUTSIDE;
        }
        int had = client.guessed;
        client.guessed = group;
        return had;
    }

    public int early(int v) {
        if (v != NONE && (v < 0 || v > MOST_TOLD)) {
            return OUTSIDE;
        }
        int had = client.earlyLetter;
        client.earlyLetter = v;
        return had;
    }

    // ---- what is done

    public int hello() {
        if (client.peer.state != IDLE) {
            return NOT;
        }
        client.begin(now, toServer);
        return toServer.length;
    }

    public int step(int side) {
        if (!isSide(side)) {
            return UNKNOWN;
        }
        Road road = roadTo(side);
        if (road.length == 0) {
            return NOT;
        }
        road.takeFirst(arrived);
        if (side == CLIENT) {
            client.receive(arrived, now, toServer);
        } else {
            server.receive(arrived, now, toClient);
        }
        return arrived.at(Message.KIND);
    }

    public int ticket(int life) {
        if (life < 0 || life > MOST_LIFE) {
            return OUTSIDE;
        }
        if (server.peer.state != JOINED || server.peer.version != 3) {
            return NOT;
        }
        return server.makeTicket(life, now, toClient);
    }

    public int forget() {
        if (!client.hasTicket) {
            return NOT;
        }
        client.hasTicket = false;
        return client.ticket.number;
    }

    public int say(int side, int v) {
        if (!isSide(side)) {
            return UNKNOWN;
        }
        if (v < 0 || v > MOST_TOLD) {
            return OUTSIDE;
        }
        if (peerOf(side).state != JOINED) {
            return NOT;
        }
        return peerOf(side).sendLetter(v, roadTo(otherThan(side)));
    }

    public int update(int side) {
        if (!isSide(side)) {
            return UNKNOWN;
        }
        if (peerOf(side).state != JOINED) {
            return NOT;
        }
        return peerOf(side).sendUpdate(roadTo(otherThan(side)));
    }

    public int fresh(int side) {
        if (!isSide(side)) {
            return UNKNOWN;
        }
        Peer peer = peerOf(side);
        int was = peer.state;
        peer.rest();
        return was;
    }

    public int pass(int n) {
        if (n < 1 || n > MOST_PASS) {
            return OUTSIDE;
        }
        now += n;
        return now;
    }

    // ---- somebody between

    public int alter(int side, int i, int v) {
        if (!isSide(side)) {
            return UNKNOWN;
        }
        if (!Message.hasNumber(i)) {
            return OUTSIDE;
        }
        if (roadTo(side).length == 0) {
            return NOT;
        }
        Message first = roadTo(side).first();
        int was = first.at(i);
        first.put(i, v);
        return was;
    }

    public int drop(int side) {
        if (!isSide(side)) {
            return UNKNOWN;
        }
        Road road = roadTo(side);
        if (road.length == 0) {
            return NOT;
        }
        road.takeFirst(arrived);
        return road.length;
    }

    public int copy(int side, int place) {
        if (!isSide(side) || !isPlace(place)) {
            return UNKNOWN;
        }
        Road road = roadTo(side);
        if (road.length == 0) {
            return NOT;
        }
        copies[place].become(road.first());
        copied[place] = true;
        return copies[place].at(Message.KIND);
    }

    public int inject(int side, int place) {
        if (!isSide(side) || !isPlace(place)) {
            return UNKNOWN;
        }
        if (!copied[place]) {
            return NOT;
        }
        Road road = roadTo(side);
        if (road.length >= Road.LIMIT) {
            return FULL;
        }
        road.send(copies[place]);
        return road.length;
    }

    // ---- what there is

    public int side(int side, int what) {
        if (!isSide(side)) {
            return UNKNOWN;
        }
        if (what < 0 || what > LAST_OF_SIDE) {
            return OUTSIDE;
        }
        return peerOf(side).tell(what);
    }

    public int message(int side, int i) {
        if (!isSide(side)) {
            return UNKNOWN;
        }
        if (!Message.hasNumber(i)) {
            return OUTSIDE;
        }
        return roadTo(side).length == 0 ? NOT : roadTo(side).first().at(i);
    }

    public int kept(int k, int what) {
        if (k < 0 || k >= server.kept) {
            return UNKNOWN;
        }
        return Ticket.tells(what) ? server.tickets[k].tell(what) : OUTSIDE;
    }

    public int held(int what) {
        if (!Ticket.tells(what)) {
            return OUTSIDE;
        }
        return client.hasTicket ? client.ticket.tell(what) : NOT;
    }

    public int share(int group, int s) {
        if (!isGroup(group)) {
            return UNKNOWN;
        }
        return s < 1 || s > MOST_SECRET ? OUTSIDE : shareOf(group, s);
    }

    public int count(int what) {
        switch (what) {
            case 0: return now;
            case 1: return toClient.length;
            case 2: return toServer.length;
            case 3: return server.kept;
            case 4: return server.seen;
            case 5: return server.earlyLetters;
            case 6: return server.earlyTold;
            case 7: return client.peer.letters;
            case 8: return server.peer.letters;
            case 9: return client.peer.told;
            case 10: return server.peer.told;
            case 11: return text.length;
            case 12: return toClient.lost + toServer.lost;
            default: return OUTSIDE;
        }
    }

    // ---- helpers of the calls

    /** The ranges were looked at when the text was read, so that no call here is refused. */
    private void apply(int kind, int first, int second) {
        switch (kind) {
            case Text.OF_CLIENT: offer(CLIENT, first, second); break;
            case Text.OF_SERVER: offer(SERVER, first, second); break;
            case Text.OF_SECRET: secret(first, second); break;
            case Text.OF_GUESS: guess(first); break;
            default: early(first); break;
        }
    }

    private static boolean isSide(int side) {
        return side == CLIENT || side == SERVER;
    }

    private static boolean isGroup(int group) {
        return group >= 0 && group <= LAST_GROUP;
    }

    private static boolean isPlace(int place) {
        return place >= 0 && place < PLACES;
    }

    private static int otherThan(int side) {
        return side == CLIENT ? SERVER : CLIENT;
    }

    private Peer peerOf(int side) {
        return side == CLIENT ? client.peer : server.peer;
    }

    private Road roadTo(int side) {
        return side == CLIENT ? toClient : toServer;
    }

    // ---- the numbers

    private static int mix(int h, int x) {
        int y = (h ^ x) * 16777619;
        return y ^ (y >>> 15);
    }

    private static int primeOf(int group) {
        switch (group) {
            case 0: return 23;
            case 1: return 47;
            case 2: return 59;
            default: return 97;
        }
    }

    private static int shareOf(int group, int secret) {
        return power(group == 2 ? 2 : 5, secret, primeOf(group));
    }

    /** What base to the exponent (999 at most, so of ten bits) leaves by the prime. */
    private static int power(int base, int exponent, int prime) {
        if (prime < 1) {
            return 0;
        }
        int result = 1;
        int square = base % prime;
        for (int bit = 0; bit < 10; bit++) {
            if (((exponent >> bit) & 1) != 0) {
                result = result * square % prime;
            }
            square = square * square % prime;
        }
        return result;
    }

    private static boolean isShare(int share, int group) {
        return share >= 1 && share < primeOf(group);
    }

    private static boolean hasGroup(int groups, int group) {
        return isGroup(group) && ((groups >> group) & 1) != 0;
    }

    private static boolean hasVersion(int versions, int version) {
        return version >= 1 && version <= 3 && ((versions >> (version - 1)) & 1) != 0;
    }

    /** A version is one above the place of its bit, so this leaves the versions above it. */
    private static boolean hasVersionAbove(int versions, int version) {
        return versions >> version != 0;
    }

    private static int greatestOf(int set) {
        for (int i = LAST_GROUP; i >= 0; i--) {
            if (((set >> i) & 1) != 0) {
                return i;
            }
        }
        return NONE;
    }

    private static int leastOf(int set) {
        for (int i = 0; i <= LAST_GROUP; i++) {
            if (((set >> i) & 1) != 0) {
                return i;
            }
        }
        return NONE;
    }

    private static int keyOf(int share, int secret, int group, int value) {
        return mix(mix(7, power(share, secret, primeOf(group))), value);
    }

    private static int binderOf(int value, int digest, Message hello) {
        return hello.mixInto(mix(value, digest), Message.HELLO_AGE);
    }

    /** The numbers 0 to 8 of a message; which one is which depends on the kind. */
    private static final class Message {
        static final int HELLO = 1, RETRY = 2, GREETING = 3, FINISH = 4, TICKET = 5, LETTER = 6, UPDATE = 7;

        static final int KIND = 0, LAST = 8;
        static final int HELLO_VERSIONS = 1, HELLO_GROUPS = 2, HELLO_GROUP = 3, HELLO_SHARE = 4;
        static final int HELLO_TICKET = 5, HELLO_AGE = 6, HELLO_BINDER = 7, HELLO_EARLY = 8;
        static final int RETRY_GROUP = 1;
        static final int GREETING_VERSION = 1, GREETING_GROUP = 2, GREETING_SHARE = 3, GREETING_MARK = 4;
        static final int GREETING_RESUMED = 5, GREETING_EARLY = 6, GREETING_PROOF = 7;
        static final int FINISH_PROOF = 1;
        static final int TICKET_NUMBER = 1, TICKET_ADD = 2, TICKET_LIFE = 3;
        static final int LETTER_SEALED = 1, LETTER_TAG = 2;
        static final int UPDATE_TAG = 1;

        private final int[] numbers = new int[LAST + 1];

        static boolean hasNumber(int i) {
            return i >= 0 && i <= LAST;
        }

        int at(int i) {
            return hasNumber(i) ? numbers[i] : 0;
        }

        void put(int i, int v) {
            if (hasNumber(i)) {
                numbers[i] = v;
            }
        }

        /** A new message of a kind, in which nothing is told yet. */
        void begin(int kind) {
            for (int i = 0; i <= LAST; i++) {
                numbers[i] = 0;
            }
            numbers[KIND] = kind;
        }

        void become(Message other) {
            for (int i = 0; i <= LAST; i++) {
                numbers[i] = other.numbers[i];
            }
        }

        int mixInto(int h, int last) {
            int mixed = h;
            for (int i = 0; i <= last && i <= LAST; i++) {
                mixed = mix(mixed, numbers[i]);
            }
            return mixed;
        }
    }

    /** The messages on the way to one side, the first that was sent ahead. */
    private static final class Road {
        static final int LIMIT = 8;

        private final Message[] waiting = new Message[LIMIT];
        int length;
        int lost;

        Road() {
            for (int i = 0; i < LIMIT; i++) {
                waiting[i] = new Message();
            }
        }

        void send(Message message) {
            if (length >= LIMIT) {
                lost++;
                return;
            }
            waiting[length].become(message);
            length++;
        }

        Message first() {
            return waiting[0];
        }

        void takeFirst(Message into) {
            if (length < 1) {
                return;
            }
            Message first = waiting[0];
            into.become(first);
            for (int i = 1; i < LIMIT; i++) {
                waiting[i - 1] = waiting[i];
            }
            waiting[LIMIT - 1] = first;
            length--;
        }
    }

    /** A ticket as the server keeps it, and as the client holds it. */
    private static final class Ticket {
        private static final int LAST = 4;

        int number;
        int life;
        int since;
        int value;
        int add;

        static boolean tells(int what) {
            return what >= 0 && what <= LAST;
        }

        int tell(int what) {
            switch (what) {
                case 0: return number;
                case 1: return life;
                case 2: return since;
                case 3: return value;
                default: return add;
            }
        }
    }

    /** What one side knows of one way: sender and receiver go on by themselves. */
    private static final class Lane {
        private static final int VEIL = 1023;

        private final int way;
        int epoch;
        int count;

        Lane(int way) {
            this.way = way;
        }

        void open() {
            epoch = 0;
            count = 0;
        }

        private int lockOf(int main) {
            return mix(mix(main, way), epoch);
        }

        int tagOf(int main, int x) {
            return mix(mix(lockOf(main), x), count);
        }

        /** Seals what is told, and tells what was sealed. */
        int veil(int main, int v) {
            return v ^ (mix(lockOf(main), count) & VEIL);
        }
    }

    /** What client and server have alike: settings, state, digest, keys, the letters that came. */
    private static final class Peer {
        private static final int FIRST_DIGEST = 1, OF_UPDATE = -1;

        int versions = ALL_VERSIONS;
        int groups = ALL_GROUPS;
        int secret;
        int state;
        int reason;
        int digest = FIRST_DIGEST;
        int version;
        int group;
        boolean resumed;
        int key;
        int main;
        int letters;
        int told;
        private final Lane toClient = new Lane(CLIENT);
        private final Lane toServer = new Lane(SERVER);
        private final Lane in;
        private final Lane out;
        final Message draft = new Message();

        Peer(int side, int secret) {
            this.secret = secret;
            in = side == CLIENT ? toClient : toServer;
            out = side == CLIENT ? toServer : toClient;
        }

        void rest() {
            state = IDLE;
            reason = 0;
            digest = FIRST_DIGEST;
        }

        void fail(int why) {
            state = FAILED;
            reason = why;
        }

        void join() {
            state = JOINED;
            main = mix(key, digest);
            toClient.open();
            toServer.open();
        }

        void takeIn(Message message) {
            boolean greeting = message.at(Message.KIND) == Message.GREETING;
            digest = message.mixInto(digest, greeting ? Message.GREETING_EARLY : Message.LAST);
        }

        int proof(int which) {
            return mix(mix(key, digest), which);
        }

        int sendLetter(int v, Road road) {
            int sealed = out.veil(main, v);
            draft.begin(Message.LETTER);
            draft.put(Message.LETTER_SEALED, sealed);
            draft.put(Message.LETTER_TAG, out.tagOf(main, sealed));
            road.send(draft);
            out.count++;
            return sealed;
        }

        int sendUpdate(Road road) {
            draft.begin(Message.UPDATE);
            draft.put(Message.UPDATE_TAG, out.tagOf(main, OF_UPDATE));
            road.send(draft);
            out.epoch++;
            out.count++;
            return out.epoch;
        }

        /** What comes to a side when its own kinds do not fit. */
        void receive(Message message) {
            int kind = message.at(Message.KIND);
            if (state == JOINED && kind == Message.LETTER) {
                receiveLetter(message.at(Message.LETTER_SEALED), message.at(Message.LETTER_TAG));
            } else if (state == JOINED && kind == Message.UPDATE) {
                receiveUpdate(message.at(Message.UPDATE_TAG));
            } else if (state != FAILED) {
                fail(BY_KIND);
            }
        }

        private void receiveLetter(int sealed, int tag) {
            if (tag != in.tagOf(main, sealed)) {
                fail(BY_TAG);
                return;
            }
            letters++;
            told += in.veil(main, sealed);
            in.count++;
        }

        private void receiveUpdate(int tag) {
            if (tag != in.tagOf(main, OF_UPDATE)) {
                fail(BY_TAG);
                return;
            }
            in.epoch++;
            in.count++;
        }

        int tell(int what) {
            switch (what) {
                case 0: return state;
                case 1: return reason;
                case 2: return digest;
                default: return state == JOINED ? tellJoined(what) : NONE;
            }
        }

        private int tellJoined(int what) {
            switch (what) {
                case 3: return version;
                case 4: return group;
                case 5: return resumed ? 1 : 0;
                case 6: return key;
                case 7: return main;
                case 8: return toClient.epoch;
                case 9: return toServer.epoch;
                case 10: return toClient.count;
                default: return toServer.count;
            }
        }
    }

    private static final class Client {
        final Peer peer = new Peer(CLIENT, 3);
        final Ticket ticket = new Ticket();
        boolean hasTicket;
        int guessed;
        int earlyLetter = NONE;
        private boolean retryCame;
        private int askedGroup;
        private boolean askedWithTicket;
        private int askedValue;

        void begin(int now, Road toServer) {
            retryCame = false;
            peer.state = ASKED;
            ask(hasGroup(peer.groups, guessed) ? guessed : leastOf(peer.groups), now, toServer);
        }

        private void ask(int group, int now, Road toServer) {
            Message hello = peer.draft;
            hello.begin(Message.HELLO);
            hello.put(Message.HELLO_VERSIONS, peer.versions);
            hello.put(Message.HELLO_GROUPS, peer.groups);
            hello.put(Message.HELLO_GROUP, group);
            hello.put(Message.HELLO_SHARE, shareOf(group, peer.secret));
            if (hasTicket) {
                hello.put(Message.HELLO_TICKET, ticket.number);
                hello.put(Message.HELLO_AGE, now - ticket.since + ticket.add);
                hello.put(Message.HELLO_BINDER, binderOf(ticket.value, peer.digest, hello));
            }
            hello.put(Message.HELLO_EARLY, hasTicket && !retryCame ? earlyLetter : NONE);
            askedGroup = group;
            askedWithTicket = hasTicket;
            askedValue = ticket.value;
            peer.takeIn(hello);
            toServer.send(hello);
        }

        void receive(Message message, int now, Road toServer) {
            int kind = message.at(Message.KIND);
            if (peer.state == ASKED && kind == Message.RETRY) {
                receiveRetry(message, now, toServer);
            } else if (peer.state == ASKED && kind == Message.GREETING) {
                receiveGreeting(message, toServer);
            } else if (peer.state == JOINED && kind == Message.TICKET) {
                receiveTicket(message, now);
            } else {
                peer.receive(message);
            }
        }

        private void receiveRetry(Message retry, int now, Road toServer) {
            int group = retry.at(Message.RETRY_GROUP);
            if (!hasGroup(peer.groups, group) || group == askedGroup || retryCame) {
                peer.fail(BY_GROUP);
                return;
            }
            retryCame = true;
            peer.takeIn(retry);
            ask(group, now, toServer);
        }

        private void receiveGreeting(Message greeting, Road toServer) {
            int wrong = wrongIn(greeting);
            if (wrong != 0) {
                peer.fail(wrong);
                return;
            }
            peer.version = greeting.at(Message.GREETING_VERSION);
            peer.group = askedGroup;
            peer.resumed = greeting.at(Message.GREETING_RESUMED) != 0;
            peer.key = keyOf(greeting.at(Message.GREETING_SHARE), peer.secret, askedGroup,
                    peer.resumed ? askedValue : 0);
            peer.takeIn(greeting);
            if (greeting.at(Message.GREETING_PROOF) != peer.proof(1)) {
                peer.fail(BY_PROOF);
                return;
            }
            peer.draft.begin(Message.FINISH);
            peer.draft.put(Message.FINISH_PROOF, peer.proof(2));
            toServer.send(peer.draft);
            peer.join();
        }

        /** The reason to fail that fits first, or 0. */
        private int wrongIn(Message greeting) {
            int version = greeting.at(Message.GREETING_VERSION);
            if (!hasVersion(peer.versions, version)) {
                return BY_VERSION;
            }
            if (greeting.at(Message.GREETING_GROUP) != askedGroup) {
                return BY_GROUP;
            }
            if (greeting.at(Message.GREETING_MARK) != 0 && hasVersionAbove(peer.versions, version)) {
                return BY_MARK;
            }
            if (!isShare(greeting.at(Message.GREETING_SHARE), askedGroup)) {
                return BY_SHARE;
            }
            return greeting.at(Message.GREETING_RESUMED) != 0 && !askedWithTicket ? BY_TICKET : 0;
        }

        private void receiveTicket(Message message, int now) {
            hasTicket = true;
            ticket.number = message.at(Message.TICKET_NUMBER);
            ticket.add = message.at(Message.TICKET_ADD);
            ticket.life = message.at(Message.TICKET_LIFE);
            ticket.since = now;
            ticket.value = mix(peer.main, ticket.number);
        }
    }

    private static final class Server {
        private static final int MOST_TICKETS = 3, MOST_SEEN = 4, MOST_OFF = 2, OF_ADD = 77;

        final Peer peer = new Peer(SERVER, 4);
        final Ticket[] tickets = new Ticket[MOST_TICKETS];
        int kept;
        private int made;
        private final int[] seenNumbers = new int[MOST_SEEN];
        private final int[] seenBinders = new int[MOST_SEEN];
        int seen;
        int earlyLetters;
        int earlyTold;

        Server() {
            for (int i = 0; i < MOST_TICKETS; i++) {
                tickets[i] = new Ticket();
            }
        }

        int makeTicket(int life, int now, Road toClient) {
            made++;
            Ticket ticket = placeForTicket();
            ticket.number = made;
            ticket.life = life;
            ticket.since = now;
            ticket.value = mix(peer.main, made);
            ticket.add = mix(made, OF_ADD);
            peer.draft.begin(Message.TICKET);
            peer.draft.put(Message.TICKET_NUMBER, made);
            peer.draft.put(Message.TICKET_ADD, ticket.add);
            peer.draft.put(Message.TICKET_LIFE, life);
            toClient.send(peer.draft);
            return made;
        }

        /** The place behind the tickets that are kept; the oldest one's, if there are as many as can be. */
        private Ticket placeForTicket() {
            if (kept < MOST_TICKETS) {
                kept++;
                return tickets[kept - 1];
            }
            Ticket oldest = tickets[0];
            for (int i = 1; i < MOST_TICKETS; i++) {
                tickets[i - 1] = tickets[i];
            }
            tickets[MOST_TICKETS - 1] = oldest;
            return oldest;
        }

        void receive(Message message, int now, Road toClient) {
            int kind = message.at(Message.KIND);
            if ((peer.state == IDLE || peer.state == RETRIED) && kind == Message.HELLO) {
                receiveHello(message, now, toClient);
            } else if (peer.state == GREETED && kind == Message.FINISH) {
                receiveFinish(message);
            } else {
                peer.receive(message);
            }
        }

        private void receiveFinish(Message finish) {
            if (finish.at(Message.FINISH_PROOF) != peer.proof(2)) {
                peer.fail(BY_PROOF);
            } else {
                peer.join();
            }
        }

        private void receiveHello(Message hello, int now, Road toClient) {
            int version = 1 + greatestOf(hello.at(Message.HELLO_VERSIONS) & peer.versions);
            int liked = greatestOf(hello.at(Message.HELLO_GROUPS) & peer.groups);
            int wrong = wrongIn(hello, version, liked);
            if (wrong != 0) {
                peer.fail(wrong);
                return;
            }
            if (hello.at(Message.HELLO_GROUP) != liked) {
                sendRetry(hello, liked, toClient);
                return;
            }
            int k = version == 3 ? livingTicket(hello.at(Message.HELLO_TICKET), now) : NONE;
            boolean resumed = k >= 0 && k < kept;
            int value = resumed ? tickets[k].value : 0;
            if (resumed && hello.at(Message.HELLO_BINDER) != binderOf(value, peer.digest, hello)) {
                peer.fail(BY_TICKET);
                return;
            }
            boolean early = resumed && takeEarly(hello, tickets[k], now);
            peer.takeIn(hello);
            peer.version = version;
            peer.group = liked;
            peer.resumed = resumed;
            peer.key = keyOf(hello.at(Message.HELLO_SHARE), peer.secret, liked, value);
            sendGreeting(early, toClient);
        }

        /** The reason to fail that fits first, or 0; a group that is not liked is no fault the first time. */
        private int wrongIn(Message hello, int version, int liked) {
            if (version < 1) {
                return BY_VERSION;
            }
            if (liked == NONE) {
                return BY_NO_GROUP;
            }
            if (hello.at(Message.HELLO_GROUP) != liked) {
                return peer.state == IDLE ? 0 : BY_GROUP;
            }
            return isShare(hello.at(Message.HELLO_SHARE), liked) ? 0 : BY_SHARE;
        }

        private void sendRetry(Message hello, int liked, Road toClient) {
            peer.takeIn(hello);
            peer.draft.begin(Message.RETRY);
            peer.draft.put(Message.RETRY_GROUP, liked);
            toClient.send(peer.draft);
            peer.takeIn(peer.draft);
            peer.state = RETRIED;
        }

        private void sendGreeting(boolean early, Road toClient) {
            Message greeting = peer.draft;
            greeting.begin(Message.GREETING);
            greeting.put(Message.GREETING_VERSION, peer.version);
            greeting.put(Message.GREETING_GROUP, peer.group);
            greeting.put(Message.GREETING_SHARE, shareOf(peer.group, peer.secret));
            greeting.put(Message.GREETING_MARK, hasVersionAbove(peer.versions, peer.version) ? 1 : 0);
            greeting.put(Message.GREETING_RESUMED, peer.resumed ? 1 : 0);
            greeting.put(Message.GREETING_EARLY, early ? 1 : 0);
            peer.takeIn(greeting);
            greeting.put(Message.GREETING_PROOF, peer.proof(1));
            toClient.send(greeting);
            peer.state = GREETED;
        }

        /** The place of the ticket of that number, if it is kept and still of use, else NONE. */
        private int livingTicket(int number, int now) {
            for (int k = 0; k < kept && k < MOST_TICKETS; k++) {
                if (tickets[k].number == number) {
                    return now - tickets[k].since > tickets[k].life ? NONE : k;
                }
            }
            return NONE;
        }

        private boolean takeEarly(Message hello, Ticket ticket, int now) {
            int told = hello.at(Message.HELLO_EARLY);
            int binder = hello.at(Message.HELLO_BINDER);
            int off = hello.at(Message.HELLO_AGE) - ticket.add - (now - ticket.since);
            if (told < 0 || peer.state != IDLE || off < -MOST_OFF || off > MOST_OFF
                    || wasSeen(ticket.number, binder)) {
                return false;
            }
            addSeen(ticket.number, binder);
            earlyLetters++;
            earlyTold += told;
            return true;
        }

        private boolean wasSeen(int number, int binder) {
            for (int i = 0; i < seen && i < MOST_SEEN; i++) {
                if (seenNumbers[i] == number && seenBinders[i] == binder) {
                    return true;
                }
            }
            return false;
        }

        private void addSeen(int number, int binder) {
            if (seen >= MOST_SEEN) {
                for (int i = 1; i < MOST_SEEN; i++) {
                    seenNumbers[i - 1] = seenNumbers[i];
                    seenBinders[i - 1] = seenBinders[i];
                }
                seen = MOST_SEEN - 1;
            }
            seenNumbers[seen] = number;
            seenBinders[seen] = binder;
            seen++;
        }
    }

    /** The text of the settings, and the clauses that stood in it when it was last read. */
    private static final class Text {
        static final int OF_CLIENT = 0, OF_SERVER = 1, OF_SECRET = 2, OF_GUESS = 3, OF_EARLY = 4;

        private static final int MOST_LETTERS = 200, MOST_CLAUSES = 24, MOST_DIGITS = 3;

        private final int[] letters = new int[MOST_LETTERS];
        int length;
        private final int[] kinds = new int[MOST_CLAUSES];
        private final int[] firsts = new int[MOST_CLAUSES];
        private final int[] seconds = new int[MOST_CLAUSES];
        int clauses;
        private int start;
        private int end;

        boolean add(int letter) {
            if (length >= MOST_LETTERS) {
                return false;
            }
            letters[length] = letter;
            length++;
            return true;
        }

        int kindOf(int i) {
            return i >= 0 && i < MOST_CLAUSES ? kinds[i] : NONE;
        }

        int firstOf(int i) {
            return i >= 0 && i < MOST_CLAUSES ? firsts[i] : NONE;
        }

        int secondOf(int i) {
            return i >= 0 && i < MOST_CLAUSES ? seconds[i] : NONE;
        }

        /** Reads the clauses: the place of the first fault, or NONE. */
        int read() {
            end = 0;
            clauses = 0;
            for (int i = 0; i < MOST_CLAUSES; i++) {
                if (!readClause(i)) {
                    return start;
                }
                clauses++;
                nextToken();
                if (start == length) {
                    return NONE;
                }
                if (letterAt(start) != ';') {
                    return start;
                }
            }
            return start;
        }

        /** If it answers false, the token that cannot stand there is the current one. */
        private boolean readClause(int i) {
            nextToken();
            int kind = clauseKind();
            if (kind == NONE) {
                return false;
            }
            nextToken();
            int first = number(kind == OF_CLIENT || kind == OF_SERVER ? 1 : 0, mostFirst(kind));
            if (first == NONE) {
                return false;
            }
            int second = 0;
            if (kind != OF_GUESS && kind != OF_EARLY) {
                nextToken();
                second = number(1, kind == OF_SECRET ? MOST_SECRET : ALL_GROUPS);
            }
            kinds[i] = kind;
            firsts[i] = first;
            seconds[i] = second;
            return second != NONE;
        }

        private static int mostFirst(int kind) {
            switch (kind) {
                case OF_SECRET: return SERVER;
                case OF_GUESS: return LAST_GROUP;
                case OF_EARLY: return MOST_TOLD;
                default: return ALL_VERSIONS;
            }
        }

        private int clauseKind() {
            if (isWord("client")) {
                return OF_CLIENT;
            }
            if (isWord("server")) {
                return OF_SERVER;
            }
            if (isWord("secret")) {
                return OF_SECRET;
            }
            if (isWord("guess")) {
                return OF_GUESS;
            }
            return isWord("early") ? OF_EARLY : NONE;
        }

        private boolean isWord(String word) {
            if (end - start != word.length()) {
                return false;
            }
            for (int i = 0; i < word.length(); i++) {
                if (letterAt(start + i) != word.charAt(i)) {
                    return false;
                }
            }
            return true;
        }

        /** The current token as a number from least to most, or NONE if it is none. */
        private int number(int least, int most) {
            if (end == start || end - start > MOST_DIGITS) {
                return NONE;
            }
            int value = 0;
            for (int i = start; i < end; i++) {
                if (!isDigit(letterAt(i))) {
                    return NONE;
                }
                value = value * 10 + letterAt(i) - '0';
            }
            return value < least || value > most ? NONE : value;
        }

        /** Goes on to the next token; at the end of the text it is empty. */
        private void nextToken() {
            start = end;
            while (start < length && letterAt(start) == ' ') {
                start++;
            }
            end = start;
            if (isSmall(letterAt(start))) {
                while (end < length && isSmall(letterAt(end))) {
                    end++;
                }
            } else if (isDigit(letterAt(start))) {
                while (end < length && isDigit(letterAt(end))) {
                    end++;
                }
            } else if (start < length) {
                end++;
            }
        }

        private int letterAt(int place) {
            return place >= 0 && place < length ? letters[place] : NONE;
        }

        private static boolean isSmall(int letter) {
            return letter >= 'a' && letter <= 'z';
        }

        private static boolean isDigit(int letter) {
            return letter >= '0' && letter <= '9';
        }
    }
}
