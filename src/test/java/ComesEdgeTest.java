import java.math.BigInteger;
import java.util.Arrays;

/** What comes to a side in which state: each reason's bound, the order of the reasons, and that nothing else is done. */
final class ComesEdgeTest extends Play {
    public static void main(String[] args) {
        helloWithoutTicket();
        helloAge();
        helloEarly();
        retryGroup();
        retryOnce();
        retrySettings();
        greetingVersion();
        greetingGroup();
        greetingMark();
        greetingShare();
        greetingResumed();
        greetingProof();
        greetingOrder();
        greetingSettings();
        greetingLastHello();
        ticketOnlyWhenJoined();
        ticketNumbers();
        serverVersion();
        serverGroup();
        serverRetryOnce();
        serverShare();
        serverOrder();
        serverSettings();
        resumedVersion();
        resumedTicket();
        resumedLife();
        resumedBinder();
        earlyTold();
        earlyWhenIdle();
        earlyAge();
        earlySeen();
        earlySeenOfTwoTickets();
        earlySeenNumbersGoToo();
        greetingOfTheServer();
        finishProof();
        lettersTag();
        lettersLowestBits();
        updatesTag();
        epochsAndCounts();
        whateverElse();
        failedStays();
        end("ComesEdgeTest");
    }

    // ---- helpers

    /** A client that asked with the group 0, was told to ask with the group 3, and did; the server is RETRIED. */
    private static ToyGreeting retried(ToyGreeting x) {
        x.fresh(C);
        x.fresh(S);
        x.guess(0);
        x.hello();
        x.step(S);
        due("retried", x.side(S, 0), RETRIED);
        x.step(C);
        due("the second hello's group", x.message(S, 3), 3);
        return x;
    }

    /** As the first of what is on the way to the server, but with this as the binder's due. */
    private static void bind(ToyGreeting x, int value) {
        x.alter(S, 7, Model.binder(value, x.side(S, 2), first(x, S)));
    }

    private static void wait(ToyGreeting x, int n) {
        int left = n;
        while (left > 0) {
            x.pass(Math.min(left, 99));
            left -= 99;
        }
    }

    // ---- a hello is made

    private static void helloWithoutTicket() {
        name("a HELLO without a TICKET: number 0, nothing told as AGE and BINDER, EARLY -1");
        ToyGreeting x = new ToyGreeting();
        x.early(0);
        x.pass(9);
        x.hello();
        firstIs(x, S, 1, 7, 15, 0, 10, 0, 0, 0, -1);
        ToyGreeting y = withTicket(9);
        y.early(999);
        y.forget();
        again(y);
        firstIs(y, S, 1, 7, 15, 3, 28, 0, 0, 0, -1);
    }

    private static void helloAge() {
        name("AGE: NOW less when the TICKET came, and ADD");
        int[] waits = {0, 1, 99, 100, 1000};
        for (int made : waits) {
            for (int waited : waits) {
                ToyGreeting x = joined();
                wait(x, made);
                x.ticket(99);
                wait(x, 7);
                x.step(C);
                due("it came", x.held(2), made + 7);
                wait(x, waited);
                again(x);
                due("age", x.message(S, 6), waited + mix(1, 77));
                due("number", x.message(S, 5), 1);
                due("binder", x.message(S, 7), Model.binder(x.held(3), 1, first(x, S)));
            }
        }
    }

    private static void helloEarly() {
        name("EARLY, if it has one (0 is one) and a TICKET and no RETRY came, else -1");
        for (int v : new int[] {NONE, 0, 1, 999}) {
            ToyGreeting x = withTicket(99);
            x.early(v);
            again(x);
            due("with a ticket", x.message(S, 8), v);
            x.drop(S);
            retried(x);
            due("behind a retry", x.message(S, 8), -1);
            due("the ticket all the same", x.message(S, 5), 1);
            x.drop(S);
            x.guess(3);
            again(x);
            due("no retry came to this greeting", x.message(S, 8), v);
            x.drop(S);
            x.forget();
            again(x);
            due("without a ticket", x.message(S, 8), -1);
        }
    }

    // ---- a retry comes

    private static void retryGroup() {
        name("RETRY: the GROUP is not of its GROUPS, or it is that of its last HELLO: FAILED, 4");
        for (int set = 1; set <= 15; set++) {
            for (int group : new int[] {MIN, -32, -1, 0, 1, 2, 3, 4, 31, 32, 33, 34, 35, MAX}) {
                ToyGreeting x = new ToyGreeting();
                x.offer(C, 7, set);
                x.offer(S, 7, 1);
                x.hello();
                int asked = x.message(S, 3);
                int digest = x.side(C, 2);
                x.copy(S, 0);
                x.drop(S);
                comes(x, C, 0, RETRY, group);
                if (group >= 0 && group < 4 && (set & 1 << group) != 0 && group != asked) {
                    due("asked", x.side(C, 0), ASKED);
                    due("the group of the second hello", x.message(S, 3), group);
                    due("its share", x.message(S, 4), x.share(group, 3));
                } else {
                    failed(x, C, 4);
                    due("no hello", x.count(2), 0);
                    due("nothing is taken in", x.side(C, 2), digest);
                }
            }
        }
    }

    private static void retryOnce() {
        name("RETRY: a RETRY came already: FAILED, 4");
        for (int group = 0; group < 4; group++) {
            ToyGreeting x = retried(new ToyGreeting());
            int digest = x.side(C, 2);
            x.copy(S, 0);
            comes(x, C, 0, RETRY, group);
            failed(x, C, 4);
            due("nothing is taken in", x.side(C, 2), digest);
            due("no third hello", x.count(2), 1);
            x.drop(S);
            retried(x);
            due("of a new greeting it is the first", x.side(C, 0), ASKED);
        }
    }

    private static void retrySettings() {
        name("RETRY: VERSIONS, GROUPS, SECRET are those of when it comes; GROUP of its last HELLO as that was made");
        ToyGreeting x = new ToyGreeting();
        x.hello();
        x.step(S);
        x.offer(C, 2, 7);
        x.step(C);
        failed(x, C, 4);
        ToyGreeting y = new ToyGreeting();
        y.offer(C, 1, 1);
        y.hello();
        y.offer(C, 5, 10);
        y.secret(C, 999);
        y.guess(1);
        y.step(S);
        y.alter(C, 0, RETRY);
        y.alter(C, 1, 3);
        y.step(C);
        firstIs(y, S, 1, 5, 10, 3, y.share(3, 999), 0, 0, 0, -1);
        ToyGreeting z = new ToyGreeting();
        z.hello();
        z.guess(3);
        z.step(S);
        z.step(C);
        due("a guess behind the hello is not its group", z.side(C, 0), ASKED);
    }

    // ---- a greeting comes

    private static void clientFails(int i, int v, int reason) {
        ToyGreeting x = greeting(7);
        int digest = x.side(C, 2);
        x.alter(C, i, v);
        int[] m = first(x, C);
        x.step(C);
        failed(x, C, reason);
        due("no finish", x.count(2), 0);
        due("digest", x.side(C, 2), reason == 8 ? mix(digest, Arrays.copyOf(m, 7)) : digest);
    }

    private static void greetingVersion() {
        name("GREETING: the VERSION is not of its VERSIONS: FAILED, 2");
        for (int version : new int[] {0, 4, -1, -31, 32, 33, 34, 35, MIN, MAX}) {
            clientFails(1, version, 2);
        }
        for (int version = 1; version <= 2; version++) {
            clientFails(1, version, 8);
        }
        ToyGreeting x = greeting(7);
        x.offer(C, 3, 15);
        x.step(C);
        failed(x, C, 2);
        ToyGreeting y = greeting(7);
        y.offer(C, 4, 15);
        y.step(C);
        due("of its versions", y.side(C, 0), JOINED);
    }

    private static void greetingGroup() {
        name("GREETING: GROUP is not that of its last HELLO: FAILED, 4");
        for (int told = 0; told < 4; told++) {
            for (int group : new int[] {MIN, -1, 0, 1, 2, 3, 4, 32 + told, MAX}) {
                ToyGreeting x = new ToyGreeting();
                x.guess(told);
                x.offer(S, 7, 1 << told);
                x.hello();
                x.step(S);
                x.alter(C, 2, group);
                x.step(C);
                due("state, group " + group + " for " + told, x.side(C, 0), group == told ? JOINED : FAILED);
                due("reason", x.side(C, 1), group == told ? 0 : 4);
            }
        }
        ToyGreeting x = retried(new ToyGreeting());
        x.step(S);
        x.copy(C, 0);
        x.alter(C, 2, 0);
        x.step(C);
        failed(x, C, 4);
    }

    private static void greetingMark() {
        name("GREETING: MARK is not 0, and it has a VERSION above: FAILED, 7");
        for (int mark : new int[] {MIN, -1, 0, 1, 2, 256, 65536, MAX}) {
            for (int version = 1; version <= 3; version++) {
                for (int set = 1; set <= 7; set++) {
                    if ((set & 1 << version - 1) == 0) {
                        continue;
                    }
                    ToyGreeting x = greeting(7);
                    x.offer(C, set, 15);
                    x.alter(C, 1, version);
                    x.alter(C, 4, mark);
                    x.step(C);
                    boolean same = version == 3 && mark == 0;
                    boolean above = set >> version != 0;
                    due("state", x.side(C, 0), same ? JOINED : FAILED);
                    due("reason of mark " + mark + ", version " + version + ", set " + set, x.side(C, 1),
                        same ? 0 : mark != 0 && above ? 7 : 8);
                }
            }
        }
    }

    private static void greetingShare() {
        name("GREETING: SHARE is not 1 to the PRIME less 1: FAILED, 5");
        for (int group = 0; group < 4; group++) {
            for (int share : new int[] {MIN, -1, 0, 1, PRIME[group] - 1, PRIME[group], PRIME[group] + 1, 65537, MAX}) {
                ToyGreeting x = new ToyGreeting();
                x.guess(group);
                x.offer(S, 7, 1 << group);
                x.hello();
                x.step(S);
                x.alter(C, 3, share);
                x.step(C);
                boolean is = share >= 1 && share < PRIME[group];
                failed(x, C, is ? 8 : 5);
            }
        }
    }

    private static void greetingResumed() {
        name("GREETING: RESUMED is not 0, and its last HELLO had no TICKET: FAILED, 6");
        for (int resumed : new int[] {MIN, -1, 1, 2, 256, 65536, MAX}) {
            clientFails(5, resumed, 6);
            ToyGreeting x = withTicket(9);
            int value = x.held(3);
            again(x);
            int asked = x.side(C, 2);
            x.step(S);
            x.alter(C, 5, resumed);
            int key = mix(7, Model.common(3, x.message(C, 3), 3), value);
            x.alter(C, 7, mix(key, mix(asked, Arrays.copyOf(first(x, C), 7)), 1));
            x.step(C);
            due("joined", x.side(C, 0), JOINED);
            due("1 RESUMED", x.side(C, 5), 1);
            due("key", x.side(C, 6), key);
        }
        ToyGreeting x = withTicket(9);
        again(x);
        int asked = x.side(C, 2);
        x.step(S);
        x.alter(C, 5, 0);
        int key = mix(7, Model.common(3, x.message(C, 3), 3), 0);
        x.alter(C, 7, mix(key, mix(asked, Arrays.copyOf(first(x, C), 7)), 1));
        x.step(C);
        due("joined", x.side(C, 0), JOINED);
        due("not RESUMED", x.side(C, 5), 0);
        due("key of no ticket", x.side(C, 6), key);
    }

    private static void greetingProof() {
        name("GREETING: is PROOF not MIX of KEY, DIGEST, 1: FAILED, 8");
        ToyGreeting x = greeting(7);
        int proof = x.message(C, 7);
        for (int v : new int[] {proof - 1, proof + 1, -proof, ~proof, proof ^ MIN, proof ^ 65536, 0}) {
            clientFails(7, v, 8);
        }
        clientFails(6, 1, 8);
        x.alter(C, 7, proof);
        x.step(C);
        due("joined", x.side(C, 0), JOINED);
        int key = x.side(C, 6);
        int digest = x.side(C, 2);
        due("it was", proof, mix(key, digest, 1));
        firstIs(x, S, FINISH, mix(key, digest, 2));
        clientFails(7, mix(key, digest, 2), 8);
        clientFails(7, mix(key, digest, 0), 8);
    }

    /** Each pair of the reasons, as each is made by itself. */
    private static void greetingOrder() {
        name("GREETING: the first of these that fits: 2, 4, 7, 5, 6, then 8");
        int[][] faults = { // reason, and the numbers that somebody alters for it, twice the same if it needs but one
            {2, 1, 9, 1, 9}, {4, 2, 9, 2, 9}, {7, 1, 2, 4, 1}, {5, 3, 0, 3, 0}, {6, 5, 1, 5, 1}, {8, 7, 0, 7, 0}};
        for (int i = 0; i < faults.length; i++) {
            for (int j = i; j < faults.length; j++) {
                ToyGreeting x = greeting(7);
                for (int k : new int[] {j, i}) {
                    x.alter(C, faults[k][1], faults[k][2]);
                    x.alter(C, faults[k][3], faults[k][4]);
                }
                x.step(C);
                failed(x, C, faults[i][0]);
            }
        }
        ToyGreeting x = greeting(7);
        for (int i = 1; i < 8; i++) {
            x.alter(C, i, -5);
        }
        x.step(C);
        failed(x, C, 2);
    }

    private static void greetingSettings() {
        name("GREETING: VERSIONS, SECRET are those of when it comes");
        ToyGreeting x = greeting(3);
        x.offer(C, 7, 15);
        x.alter(C, 1, 3);
        x.step(C);
        failed(x, C, 8);
        ToyGreeting y = greeting(3);
        due("version", y.message(C, 1), 2);
        due("mark", y.message(C, 4), 1);
        y.offer(C, 7, 15);
        y.step(C);
        failed(y, C, 7);
        ToyGreeting z = greeting(7);
        z.secret(C, 4);
        z.step(C);
        failed(z, C, 8);
        ToyGreeting w = greeting(7);
        w.secret(C, 4);
        w.secret(C, 3);
        w.secret(S, 999);
        w.step(C);
        due("joined", w.side(C, 0), JOINED);
        w.step(S);
        due("and the server, whose key was made with the secret of then", w.side(S, 0), JOINED);
    }

    private static void greetingLastHello() {
        name("GREETING: GROUP, TICKET, VALUE of its last HELLO: as that was made");
        ToyGreeting x = greeting(7);
        x.offer(C, 7, 7);
        x.guess(0);
        x.step(C);
        due("joined", x.side(C, 0), JOINED);
        due("group", x.side(C, 4), 3);
        ToyGreeting y = withTicket(9);
        again(y);
        y.step(S);
        due("forget", y.forget(), 1);
        y.step(C);
        due("joined", y.side(C, 0), JOINED);
        due("resumed", y.side(C, 5), 1);
        ToyGreeting z = withTicket(9);
        z.guess(0);
        again(z);
        z.step(S);
        z.forget();
        z.step(C);
        due("the last hello had none", z.message(S, 5), 0);
        z.step(S);
        due("not resumed", z.message(C, 5), 0);
        z.alter(C, 5, 1);
        z.step(C);
        failed(z, C, 6);
    }

    // ---- a ticket comes

    private static void ticketOnlyWhenJoined() {
        name("TICKET, when JOINED; else FAILED, 1");
        ToyGreeting x = joined();
        x.ticket(5);
        x.copy(C, 0);
        x.drop(C);
        comes(x, S, 0, TICKET, 1, 2, 3);
        failed(x, S, 1);
        x.fresh(C);
        comes(x, C, 0, TICKET, 1, 2, 3);
        failed(x, C, 1);
        due("none", x.held(0), NOT);
        x.fresh(C);
        x.hello();
        comes(x, C, 0, TICKET, 1, 2, 3);
        failed(x, C, 1);
        due("none", x.held(0), NOT);
    }

    private static void ticketNumbers() {
        name("TICKET: it has that TICKET, whatever its numbers, for one that it had");
        ToyGreeting x = joined();
        x.ticket(5);
        x.copy(C, 0);
        x.drop(C);
        int main = x.side(C, 7);
        for (int v : new int[] {MIN, -1, 0, 1, 99, 100, 1000, MAX}) {
            x.pass(1);
            comes(x, C, 0, TICKET, v, v ^ 1, v ^ 2);
            due("joined", x.side(C, 0), JOINED);
            int[] want = {v, v ^ 2, x.count(0), mix(main, v), v ^ 1};
            for (int what = 0; what < 5; what++) {
                due("held(" + what + ")", x.held(what), want[what]);
            }
            due("forget", x.forget(), v);
            due("none", x.held(0), NOT);
        }
    }

    // ---- a hello comes

    private static void serverVersion() {
        name("HELLO: VERSION: the greatest that both have: none: FAILED, 2");
        int[][] rows = {{0, 7, 0}, {8, 7, 0}, {-8, 7, 0}, {MIN, 7, 0}, {256, 7, 0}, {65536, 7, 0}, {-1, 7, 3}, {9, 7, 1},
            {-5, 7, 2}, {MAX, 4, 3}, {MAX, 1, 1}, {4, 3, 0}, {3, 4, 0}, {1, 6, 0}, {10, 3, 2}};
        for (int[] row : rows) {
            ToyGreeting x = new ToyGreeting();
            x.guess(3);
            x.offer(S, row[1], 15);
            x.hello();
            x.alter(S, 1, row[0]);
            x.step(S);
            if (row[2] == 0) {
                failed(x, S, 2);
                due("nothing is taken in", x.side(S, 2), 1);
                due("no greeting", x.count(1), 0);
            } else {
                due("version of " + row[0] + " and " + row[1], x.message(C, 1), row[2]);
            }
        }
    }

    private static void serverGroup() {
        name("HELLO: LIKED: the greatest GROUP that both have: none: FAILED, 3");
        int[][] rows = {{0, 15, -1}, {16, 15, -1}, {-16, 15, -1}, {MIN, 15, -1}, {256, 15, -1}, {65536, 15, -1},
            {-1, 15, 3}, {17, 15, 0}, {-9, 15, 2}, {MAX, 8, 3}, {MAX, 1, 0}, {8, 7, -1}, {7, 8, -1}, {1, 14, -1}, {5, 6, 2}};
        for (int[] row : rows) {
            for (int group = 0; group < 4; group++) {
                ToyGreeting x = new ToyGreeting();
                x.guess(group);
                x.offer(S, 7, row[1]);
                x.hello();
                x.alter(S, 2, row[0]);
                x.step(S);
                if (row[2] < 0) {
                    failed(x, S, 3);
                    due("nothing is taken in", x.side(S, 2), 1);
                    due("none is sent", x.count(1), 0);
                } else {
                    due("state", x.side(S, 0), group == row[2] ? GREETED : RETRIED);
                    due("liked", x.message(C, group == row[2] ? 2 : 1), row[2]);
                }
            }
        }
    }

    private static void serverRetryOnce() {
        name("HELLO: is its GROUP not LIKED: when IDLE a RETRY, when RETRIED: FAILED, 4");
        for (int group : new int[] {MIN, -1, 0, 1, 2, 4, 35, MAX}) {
            ToyGreeting x = new ToyGreeting();
            x.guess(3);
            x.hello();
            x.alter(S, 3, group);
            x.step(S);
            due("retried", x.side(S, 0), RETRIED);
            firstIs(x, C, RETRY, 3);
            ToyGreeting y = retried(new ToyGreeting());
            int digest = y.side(S, 2);
            y.alter(S, 3, group);
            y.step(S);
            failed(y, S, 4);
            due("nothing is taken in", y.side(S, 2), digest);
            due("no second retry", y.count(1), 0);
        }
        ToyGreeting x = retried(new ToyGreeting());
        x.offer(S, 7, 7);
        x.step(S);
        failed(x, S, 4);
        ToyGreeting y = retried(new ToyGreeting());
        y.step(S);
        due("greeted", y.side(S, 0), GREETED);
    }

    private static void serverShare() {
        name("HELLO: SHARE is not 1 to the PRIME less 1: FAILED, 5");
        for (int group = 0; group < 4; group++) {
            for (int share : new int[] {MIN, -1, 0, 1, PRIME[group] - 1, PRIME[group], PRIME[group] + 1, 65537, MAX}) {
                for (int guess = 0; guess < 4; guess++) {
                    ToyGreeting x = new ToyGreeting();
                    x.guess(guess);
                    x.offer(S, 7, 1 << group);
                    x.hello();
                    if (guess != group) {
                        x.alter(S, 4, share);
                        x.step(S);
                        due("no look at it ahead of a retry", x.side(S, 0), RETRIED);
                        x.step(C);
                    }
                    int digest = x.side(S, 2);
                    x.alter(S, 4, share);
                    x.step(S);
                    if (share >= 1 && share < PRIME[group]) {
                        due("greeted", x.side(S, 0), GREETED);
                    } else {
                        failed(x, S, 5);
                        due("nothing is taken in", x.side(S, 2), digest);
                    }
                }
            }
        }
    }

    /** Each pair of the reasons, of a server that is IDLE and of one that is RETRIED. */
    private static void serverOrder() {
        name("HELLO: the order of the reasons: 2, 3, 4 (or a RETRY), 5, 6");
        int[][] faults = {{2, 1, 0}, {3, 2, 0}, {4, 3, 9}, {5, 4, 0}, {6, 7, 0}};
        for (int retried = 0; retried < 2; retried++) {
            for (int i = 0; i < faults.length; i++) {
                for (int j = i; j < faults.length; j++) {
                    ToyGreeting x = withTicket(99);
                    if (retried == 1) {
                        retried(x);
                    } else {
                        again(x);
                    }
                    x.alter(S, faults[i][1], faults[i][2]);
                    x.alter(S, faults[j][1], faults[j][2]);
                    x.step(S);
                    if (faults[i][0] == 4 && retried == 0) {
                        due("retried", x.side(S, 0), RETRIED);
                    } else {
                        failed(x, S, faults[i][0]);
                    }
                }
            }
        }
    }

    private static void serverSettings() {
        name("HELLO: VERSIONS, GROUPS, SECRET of the server are those of when it comes");
        ToyGreeting x = new ToyGreeting();
        x.guess(3);
        x.hello();
        x.offer(S, 1, 12);
        x.secret(S, 999);
        x.step(S);
        int[] m = first(x, C);
        int[] want = {GREETING, 1, 3, x.share(3, 999), 0, 0, 0};
        for (int i = 0; i < 7; i++) {
            due("number " + i, m[i], want[i]);
        }
        ToyGreeting y = retried(new ToyGreeting());
        y.offer(S, 2, 15);
        y.secret(S, 1);
        y.step(S);
        due("version", y.message(C, 1), 2);
        due("share", y.message(C, 3), 5);
        due("mark", y.message(C, 4), 0);
    }

    // ---- resumed, early

    private static void resumedVersion() {
        name("RESUMED, if VERSION is 3");
        for (int version = 1; version <= 3; version++) {
            for (int side = 0; side < 2; side++) {
                ToyGreeting x = withTicket(99);
                x.early(3);
                x.offer(side, (1 << version) - 1, 15);
                again(x);
                x.step(S);
                due("resumed with version " + version, x.message(C, 5), version == 3 ? 1 : 0);
                due("early taken", x.message(C, 6), version == 3 ? 1 : 0);
                x.step(C);
                x.step(S);
                due("joined", x.side(S, 0), JOINED);
                due("server's", x.side(S, 5), version == 3 ? 1 : 0);
                due("client's", x.side(C, 5), version == 3 ? 1 : 0);
            }
        }
        ToyGreeting x = withTicket(99);
        x.offer(S, 3, 15);
        again(x);
        x.alter(S, 7, 0);
        x.step(S);
        due("of version 2 no binder is looked at", x.side(S, 0), GREETED);
    }

    private static void resumedTicket() {
        name("RESUMED, if it has that TICKET");
        for (int number : new int[] {MIN, -1, 0, 1, 2, 3, 4, 5, 6, 257, 65537, MAX}) {
            ToyGreeting x = joined();
            for (int i = 1; i <= 5; i++) {
                x.ticket(99);
                x.drop(C);
            }
            x.ticket(99);
            x.alter(C, 1, number);
            x.step(C);
            again(x);
            due("number", x.message(S, 5), number);
            x.step(S);
            due("resumed with " + number, x.message(C, 5), number >= 4 && number <= 6 ? 1 : 0);
            x.step(C);
            due("joined", x.side(C, 0), JOINED);
        }
        ToyGreeting x = withTicket(99);
        again(x);
        x.alter(S, 5, 2);
        x.alter(S, 7, 0);
        x.step(S);
        due("of none no binder is looked at", x.side(S, 0), GREETED);
        due("not resumed", x.message(C, 5), 0);
    }

    private static void resumedLife() {
        name("RESUMED, if NOW less when the TICKET was made is not above LIFE");
        for (int made : new int[] {0, 1, 300}) {
            for (int life : new int[] {0, 1, 2, 98, 99}) {
                for (int age : new int[] {life - 1, life, life + 1, life + 2, life + 256}) {
                    if (age < 0) {
                        continue;
                    }
                    ToyGreeting x = joined();
                    wait(x, made);
                    x.ticket(life);
                    x.step(C);
                    wait(x, age);
                    again(x);
                    if (age > life) {
                        x.alter(S, 7, 0);
                    }
                    x.step(S);
                    due("state", x.side(S, 0), GREETED);
                    due("resumed at " + age + " of " + life, x.message(C, 5), age <= life ? 1 : 0);
                }
            }
        }
        ToyGreeting x = joined();
        x.ticket(5);
        x.pass(3);
        x.step(C);
        x.pass(2);
        again(x);
        x.step(S);
        due("of when it was made, not of when it came", x.message(C, 5), 1);
        ToyGreeting y = joined();
        y.ticket(5);
        y.pass(3);
        y.step(C);
        y.pass(2);
        again(y);
        y.pass(1);
        y.step(S);
        due("of when the hello comes, not of when it was made", y.message(C, 5), 0);
        ToyGreeting z = joined();
        z.ticket(0);
        z.alter(C, 3, 99);
        z.step(C);
        z.pass(1);
        again(z);
        z.step(S);
        due("the life that the server knows", z.message(C, 5), 0);
    }

    private static void resumedBinder() {
        name("RESUMED: is BINDER not MIX of its VALUE, the DIGEST and numbers 0 to 6: FAILED, 6");
        for (int retried = 0; retried < 2; retried++) {
            for (int i = 0; i < 4; i++) {
                ToyGreeting x = withTicket(99);
                if (retried == 1) {
                    retried(x);
                } else {
                    again(x);
                }
                int binder = x.message(S, 7);
                int digest = x.side(S, 2);
                x.alter(S, 7, new int[] {binder + 1, binder - 1, ~binder, binder}[i]);
                x.step(S);
                if (i < 3) {
                    failed(x, S, 6);
                    due("nothing is taken in", x.side(S, 2), digest);
                } else {
                    due("resumed", x.message(C, 5), 1);
                }
            }
        }
        int[][] rows = {{1, 12}, {1, -1}, {2, 31}, {2, -1}, {4, 27}, {4, 96}, {6, 0}, {6, MIN}, {6, MAX}};
        for (int[] row : rows) {
            ToyGreeting x = withTicket(99);
            again(x);
            x.alter(S, row[0], row[1]);
            x.copy(S, 0);
            x.step(S);
            failed(x, S, 6);
            x.fresh(S);
            x.inject(S, 0);
            bind(x, x.kept(0, 3));
            x.step(S);
            due("bound again", x.side(S, 0), GREETED);
            due("resumed", x.message(C, 5), 1);
        }
        ToyGreeting x = withTicket(99);
        x.early(5);
        again(x);
        x.alter(S, 8, 999);
        x.step(S);
        due("number 8 is not bound", x.message(C, 5), 1);
        ToyGreeting y = withTicket(99);
        y.ticket(99);
        y.drop(C);
        again(y);
        y.alter(S, 5, 2);
        y.step(S);
        failed(y, S, 6);
    }

    private static void earlyTold() {
        name("EARLY is taken, if RESUMED, and EARLY is 0 or more");
        int[][] rows = {{MIN, 0}, {-2, 0}, {-1, 0}, {0, 1}, {1, 1}, {999, 1}, {1000, 1}, {MAX, 1}};
        for (int[] row : rows) {
            ToyGreeting x = withTicket(99);
            x.early(5);
            again(x);
            x.alter(S, 8, row[0]);
            x.step(S);
            due("resumed", x.message(C, 5), 1);
            due("taken of " + row[0], x.message(C, 6), row[1]);
            due("early letters", x.count(5), row[1]);
            due("told", x.count(6), row[1] == 1 ? row[0] : 0);
            due("seen", x.count(4), row[1]);
            ToyGreeting y = new ToyGreeting();
            y.guess(3);
            y.hello();
            y.alter(S, 8, row[0]);
            y.step(S);
            due("not resumed", y.message(C, 6), 0);
            due("early letters", y.count(5), 0);
        }
        for (int v : new int[] {0, 999}) {
            ToyGreeting x = withTicket(99);
            x.early(v);
            greet(x);
            due("early letters", x.count(5), 1);
            due("told", x.count(6), v);
        }
    }

    private static void earlyWhenIdle() {
        name("EARLY is taken, if it is IDLE, not if it is RETRIED");
        ToyGreeting x = withTicket(99);
        x.early(5);
        retried(x);
        x.alter(S, 8, 5);
        x.step(S);
        due("resumed", x.message(C, 5), 1);
        due("taken", x.message(C, 6), 0);
        due("early letters", x.count(5), 0);
        due("seen", x.count(4), 0);
        ToyGreeting y = withTicket(99);
        y.early(5);
        y.guess(0);
        again(y);
        y.step(S);
        due("a hello that is not liked", y.side(S, 0), RETRIED);
        due("early letters", y.count(5), 0);
        due("seen", y.count(4), 0);
    }

    private static void earlyAge() {
        name("EARLY is taken, if AGE less ADD is off NOW less when the TICKET was made by 2 at most");
        for (int ahead = 0; ahead < 5; ahead++) {
            for (int behind = 0; behind < 5; behind++) {
                ToyGreeting x = joined();
                x.pass(10);
                x.ticket(99);
                wait(x, ahead);
                x.step(C);
                x.pass(40);
                x.early(7);
                again(x);
                wait(x, behind);
                x.step(S);
                due("resumed", x.message(C, 5), 1);
                due("taken, " + ahead + " and " + behind, x.message(C, 6), ahead + behind <= 2 ? 1 : 0);
                due("seen", x.count(4), ahead + behind <= 2 ? 1 : 0);
            }
        }
        for (int number = 1; number <= 3; number++) {
            for (int off = -4; off <= 4; off++) {
                ToyGreeting x = joined();
                for (int i = 1; i < number; i++) {
                    x.ticket(99);
                    x.drop(C);
                }
                x.ticket(99);
                x.step(C);
                x.pass(3);
                x.early(7);
                again(x);
                x.alter(S, 6, x.message(S, 6) + off);
                bind(x, x.held(3));
                x.step(S);
                due("resumed", x.message(C, 5), 1);
                due("taken of one that is off by " + off, x.message(C, 6), off >= -2 && off <= 2 ? 1 : 0);
            }
        }
    }

    private static void earlySeen() {
        name("EARLY is taken, if the TICKET's number with this BINDER is not SEEN; then it is SEEN");
        ToyGreeting x = withTicket(99);
        x.early(7);
        again(x);
        x.copy(S, 0);
        for (int i = 0; i < 3; i++) {
            x.step(S);
            due("resumed", x.message(C, 5), 1);
            due("taken", x.message(C, 6), i == 0 ? 1 : 0);
            due("early letters", x.count(5), 1);
            due("seen", x.count(4), 1);
            x.drop(C);
            x.fresh(S);
            x.inject(S, 0);
        }
        x.drop(S);
        x.pass(1);
        again(x);
        x.step(S);
        due("of another age it is another binder", x.message(C, 6), 1);
        due("seen", x.count(4), 2);
        ToyGreeting y = withTicket(99);
        y.early(7);
        again(y);
        y.copy(S, 0);
        y.alter(S, 8, -1);
        y.step(S);
        due("none is taken", y.count(4), 0);
        y.drop(C);
        y.fresh(S);
        y.inject(S, 0);
        y.alter(S, 7, y.message(S, 7) + 1);
        y.step(S);
        failed(y, S, 6);
        due("none of a wrong binder", y.count(4), 0);
        y.fresh(S);
        y.inject(S, 0);
        y.step(S);
        due("it was not seen yet", y.message(C, 6), 1);
    }

    /** Another ticket's hello is made that has the same binder: one without the other is not SEEN. */
    private static void earlySeenOfTwoTickets() {
        name("EARLY is taken: the TICKET's number with this BINDER, not this BINDER alone");
        ToyGreeting x = withTicket(99);
        x.ticket(99);
        x.drop(C);
        x.early(7);
        again(x);
        x.copy(S, 0);
        int binder = x.message(S, 7);
        int[] m = helloOfBinder(binder, x.kept(1, 3), 28, 2, mix(2, 77));
        x.step(S);
        due("taken of the first ticket", x.message(C, 6), 1);
        x.drop(C);
        for (int i = 0; i < 2; i++) {
            x.fresh(S);
            comes(x, S, 0, m);
            due("resumed with the second ticket", x.message(C, 5), 1);
            due("taken of the second ticket", x.message(C, 6), 1 - i);
            due("early letters", x.count(5), 2);
            due("seen", x.count(4), 2);
            x.drop(C);
        }
        x.fresh(S);
        x.inject(S, 0);
        x.step(S);
        due("the first is seen still", x.message(C, 6), 0);
    }

    /** A hello to an idle server in the group 3, of which versions and groups are drawn so that it has this binder. */
    private static int[] helloOfBinder(int binder, int value, int share, int number, int age) {
        int behindGroups = binder;
        for (int known : new int[] {age, number, share, 3}) {
            behindGroups = unmix(behindGroups) ^ known;
        }
        for (int versions = 4; versions < 4000; versions += 8) {
            int groups = unmix(behindGroups) ^ mix(value, 1, HELLO, versions);
            int[] m = {HELLO, versions, groups, 3, share, number, age, binder, 7};
            if ((groups & 8) != 0) {
                due("the binder", Model.binder(value, 1, m), binder);
                return m;
            }
        }
        due("a hello of this binder", 0, 1);
        return new int[] {HELLO};
    }

    /** What h XOR x was of a MIX of both. */
    private static int unmix(int mixed) {
        int y = mixed ^ mixed >>> 15 ^ mixed >>> 30;
        return y * BigInteger.valueOf(16777619).modInverse(BigInteger.ONE.shiftLeft(32)).intValue();
    }

    private static void earlySeenNumbersGoToo() {
        name("SEEN: if there are 4, the oldest goes first, its number with its BINDER");
        ToyGreeting x = withTicket(99);
        x.early(10);
        for (int i = 0; i < 8; i++) {
            if (i == 4) {
                x.step(C);
                x.step(S);
                x.ticket(99);
                x.step(C);
                due("the second ticket", x.held(0), 2);
            }
            x.secret(C, 100 + i);
            again(x);
            x.copy(S, i % 4);
            x.step(S);
            due("taken", x.message(C, 6), 1);
            due("early letters", x.count(5), i + 1);
            if (i != 3) {
                x.drop(C);
            }
        }
        for (int i = 0; i < 4; i++) {
            x.fresh(S);
            x.inject(S, i);
            x.step(S);
            due("resumed", x.message(C, 5), 1);
            due("seen of ticket 2", x.message(C, 6), 0);
            x.drop(C);
        }
    }

    // ---- the server's greeting, finish

    private static void greetingOfTheServer() {
        name("GREETING: VERSION, GROUP, its SHARE, MARK, RESUMED, whether EARLY was taken, PROOF");
        ToyGreeting x = withTicket(99);
        x.early(0);
        x.secret(S, 1);
        again(x);
        int value = x.held(3);
        int asked = x.side(C, 2);
        x.step(S);
        int[] g = {GREETING, 3, 3, 5, 0, 1, 1};
        int key = mix(7, Model.common(3, 28, 1), value);
        firstIs(x, C, 3, 3, 3, 5, 0, 1, 1, mix(key, mix(asked, g), 1));
        due("digest", x.side(S, 2), mix(asked, g));
    }

    private static void finishProof() {
        name("FINISH, when GREETED: is PROOF not MIX of KEY, DIGEST, 2: FAILED, 8; else it is JOINED");
        ToyGreeting x = greeting(7);
        x.step(C);
        int proof = x.message(S, 1);
        int other = mix(x.side(C, 6), x.side(C, 2), 1);
        for (int v : new int[] {proof + 1, proof - 1, ~proof, proof ^ MIN, 0, other, proof}) {
            ToyGreeting y = greeting(7);
            y.step(C);
            y.alter(S, 1, v);
            y.step(S);
            due("state", y.side(S, 0), v == proof ? JOINED : FAILED);
            due("reason", y.side(S, 1), v == proof ? 0 : 8);
        }
    }

    // ---- letters, updates

    private static void lettersTag() {
        name("LETTER: is TAG not MIX of LOCK, SEALED, COUNT: FAILED, 9");
        for (int side = 0; side < 2; side++) {
            for (int count = 0; count < 3; count++) {
                for (int fault = 0; fault < 5; fault++) {
                    ToyGreeting x = joined();
                    for (int i = 0; i < count; i++) {
                        x.say(1 - side, 999);
                        x.step(side);
                    }
                    x.say(1 - side, 1);
                    int lock = mix(x.side(side, 7), side, 0);
                    int sealed = x.message(side, 1);
                    int[] tags = {mix(lock, sealed, count - 1), mix(lock, sealed, count + 1), ~x.message(side, 2),
                        mix(mix(x.side(side, 7), 1 - side, 0), sealed, count), mix(lock, sealed, count)};
                    x.alter(side, 2, tags[fault]);
                    x.step(side);
                    due("state", x.side(side, 0), fault < 4 ? FAILED : JOINED);
                    due("reason", x.side(side, 1), fault < 4 ? 9 : 0);
                    due("letters", x.count(7 + side), count + (fault < 4 ? 0 : 1));
                    due("told", x.count(9 + side), count * 999 + (fault < 4 ? 0 : 1));
                }
            }
        }
    }

    private static void lettersLowestBits() {
        name("LETTER: SEALED XOR the lowest 10 bits of MIX of LOCK, COUNT; v of 0 to 999");
        for (int side = 0; side < 2; side++) {
            ToyGreeting x = joined();
            int lock = mix(x.side(side, 7), 1 - side, 0);
            int sum = 0;
            int[] told = {0, 1, 2, 511, 512, 513, 998, 999};
            for (int i = 0; i < 40; i++) {
                int v = told[i % told.length];
                int mask = Math.floorMod(mix(lock, i), 1024);
                due("sealed", x.say(side, v), v ^ mask);
                due("on the way", x.message(1 - side, 1), v ^ mask);
                x.step(1 - side);
                sum += v;
                due("told", x.count(10 - side), sum);
            }
        }
    }

    private static void updatesTag() {
        name("UPDATE: is TAG not MIX of LOCK, -1, COUNT: FAILED, 9; else EPOCH is one more, COUNT is one more");
        for (int side = 0; side < 2; side++) {
            for (int epoch = 0; epoch < 3; epoch++) {
                for (int fault = 0; fault < 6; fault++) {
                    ToyGreeting x = joined();
                    for (int i = 0; i < epoch; i++) {
                        x.update(1 - side);
                        x.step(side);
                    }
                    x.update(1 - side);
                    int main = x.side(side, 7);
                    int lock = mix(main, side, epoch);
                    int[] tags = {mix(lock, -1, epoch - 1), mix(lock, -1, epoch + 1), mix(lock, 0, epoch),
                        mix(mix(main, side, epoch + 1), -1, epoch), mix(mix(main, side, epoch - 1), -1, epoch),
                        mix(lock, -1, epoch)};
                    x.alter(side, 1, tags[fault]);
                    x.step(side);
                    due("state", x.side(side, 0), fault < 5 ? FAILED : JOINED);
                    due("reason", x.side(side, 1), fault < 5 ? 9 : 0);
                    due("epoch", x.side(side, 8 + side), fault < 5 ? NONE : epoch + 1);
                    due("count", x.side(side, 10 + side), fault < 5 ? NONE : epoch + 1);
                    due("no letter", x.count(7 + side), 0);
                }
            }
        }
    }

    private static void epochsAndCounts() {
        name("each way has an EPOCH and a COUNT: 0, 0 when it becomes JOINED");
        ToyGreeting x = joined();
        for (int side = 0; side < 2; side++) {
            for (int what = 8; what < 12; what++) {
                due("at first", x.side(side, what), 0);
            }
        }
        x.update(C);
        x.say(C, 1);
        x.update(S);
        x.update(S);
        int[] client = {0, 1, 0, 2};
        int[] server = {2, 0, 2, 0};
        for (int what = 8; what < 12; what++) {
            due("client's " + what, x.side(C, what), client[what - 8]);
            due("server's " + what, x.side(S, what), server[what - 8]);
        }
        clear(x, C);
        clear(x, S);
        greet(x);
        for (int side = 0; side < 2; side++) {
            for (int what = 8; what < 12; what++) {
                due("joined again", x.side(side, what), 0);
            }
        }
        x.say(C, 3);
        x.step(S);
        due("told", x.count(10), 3);
    }

    // ---- whatever else

    /** An object whose side is in a state, with something to alter in place 0. */
    private static ToyGreeting in(int side, int state) {
        ToyGreeting x = state == JOINED ? joined() : new ToyGreeting();
        x.guess(state == RETRIED || state == ASKED ? 0 : 3);
        if (state == JOINED) {
            x.update(1 - side);
            x.copy(side, 0);
            x.drop(side);
        } else {
            x.hello();
            x.copy(S, 0);
            if (side == S && state != IDLE) {
                x.step(S);
            }
            if (side == C && state == IDLE) {
                x.fresh(C);
            }
            clear(x, C);
            clear(x, S);
        }
        due("state", x.side(side, 0), state);
        return x;
    }

    private static void whateverElse() {
        name("whatever else comes (another kind, another STATE): FAILED, 1");
        int[][] states = {{IDLE, ASKED, JOINED}, {IDLE, RETRIED, GREETED, JOINED}};
        for (int side = 0; side < 2; side++) {
            for (int state : states[side]) {
                for (int kind : new int[] {MIN, -1, 0, 1, 2, 3, 4, 5, 6, 7, 8, 9, 257, 65537, MAX}) {
                    ToyGreeting x = in(side, state);
                    int digest = x.side(side, 2);
                    comes(x, side, 0, kind);
                    if (x.side(side, 0) == JOINED) {
                        due("a ticket alone is taken", kind == TICKET && side == C ? JOINED : NONE, state);
                        continue;
                    }
                    failed(x, side, reasonOf(side, state, kind));
                    due("digest", x.side(side, 2), digest);
                    due("none is sent", x.count(1) + x.count(2), 0);
                }
            }
        }
    }

    /** Of a message of which all numbers but the kind are 0; a client that is ASKED told the group 0. */
    private static int reasonOf(int side, int state, int kind) {
        if (side == C && state == ASKED && kind == RETRY) {
            return 4;
        }
        if (side == C && state == ASKED && kind == GREETING) {
            return 2;
        }
        if (side == S && (state == IDLE || state == RETRIED) && kind == HELLO) {
            return 2;
        }
        if (side == S && state == GREETED && kind == FINISH) {
            return 8;
        }
        return state == JOINED && (kind == LETTER || kind == UPDATE) ? 9 : 1;
    }

    private static void failedStays() {
        name("to a FAILED one nothing happens");
        for (int side = 0; side < 2; side++) {
            for (int kind : new int[] {MIN, -1, 0, 1, 2, 3, 4, 5, 6, 7, 8, MAX}) {
                ToyGreeting x = in(side, JOINED);
                x.say(1 - side, 5);
                x.copy(side, 1);
                x.alter(side, 2, 0);
                x.step(side);
                failed(x, side, 9);
                int digest = x.side(side, 2);
                x.inject(side, 1);
                x.alter(side, 0, kind);
                due("it comes", x.step(side), kind);
                failed(x, side, 9);
                due("digest", x.side(side, 2), digest);
                due("none is sent", x.count(1) + x.count(2), 0);
                due("letters", x.count(7) + x.count(8), 0);
                due("held", x.held(0), NOT);
            }
        }
        ToyGreeting x = new ToyGreeting();
        x.guess(3);
        x.hello();
        x.copy(S, 0);
        x.alter(S, 1, 0);
        x.step(S);
        failed(x, S, 2);
        x.inject(S, 0);
        due("a good hello", x.step(S), HELLO);
        failed(x, S, 2);
        due("no greeting", x.count(1), 0);
    }
}
