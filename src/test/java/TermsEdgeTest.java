import java.util.ArrayList;
import java.util.Arrays;
import java.util.List;

/** Each sentence under the marks 1 and 2 of the document's terms that names a bound has a test of its own here. */
final class TermsEdgeTest extends Play {
    public static void main(String[] args) {
        mixGoesRound();
        earlySumGoesRound();
        letterSumsGoRound();
        ageGoesRound();
        calls512();
        shares();
        commons();
        versionsAndGroupsOfBoth();
        versionsOfTheClient();
        groupOfTheHello();
        threeTickets();
        fourSeen();
        digestOfIdle();
        takenInOfAHello();
        takenInOfARetry();
        takenInOfAGreeting();
        takenInOfNoOther();
        eightHellos();
        eightAheadOfAHelloOfARetry();
        eightAheadOfARetry();
        eightAheadOfAGreeting();
        eightAheadOfAFinish();
        eightTickets();
        eightLetters();
        eightUpdates();
        eightInTheirOrder();
        end("TermsEdgeTest");
    }

    // ---- helpers

    /** 8 messages on the way to the server, of a client that is idle again. */
    static ToyGreeting fullOfHellos() {
        ToyGreeting x = new ToyGreeting();
        x.guess(3);
        for (int i = 0; i < 8; i++) {
            x.hello();
            x.fresh(C);
        }
        return x;
    }

    static void fill(ToyGreeting x, int side, int place) {
        for (int i = x.count(1 + side); i < 8; i++) {
            due("inject", x.inject(side, place), i + 1);
        }
    }

    // ---- ints of 32 bits

    private static void mixGoesRound() {
        name("MIX: ints of 32 bits, what is beyond is left out, shifted with noughts");
        int[] values = {0, 1, -1, 2, MIN, MIN + 1, MAX, MAX - 1, 65535, 65536, 32767, 32768, 16777619, -16777619};
        for (int v : values) {
            for (int i = 5; i < 9; i++) {
                ToyGreeting x = new ToyGreeting();
                x.hello();
                x.alter(S, i, v);
                int[] m = first(x, S);
                x.step(S);
                due("retried", x.side(S, 0), RETRIED);
                int digest = 1;
                for (int number : m) {
                    digest = mixOf(digest, number);
                }
                for (int number : new int[] {2, 3, 0, 0, 0, 0, 0, 0, 0}) {
                    digest = mixOf(digest, number);
                }
                due("digest with " + v + " as number " + i, x.side(S, 2), digest);
            }
        }
        ToyGreeting x = new ToyGreeting();
        x.hello();
        due("the digest of the first hello", x.side(C, 2), -427458081);
    }

    /** MIX by long numbers, of which all but 32 bits are left out, and a division as the shift. */
    private static int mixOf(int h, int x) {
        long factor = (h ^ x) & 0xffffffffL;
        long y = factor * 16777619L % 4294967296L;
        return (int) (y ^ y / 32768L);
    }

    private static void earlySumGoesRound() {
        name("what the early letters told, together, goes round at 32 bits");
        ToyGreeting x = withTicket(99);
        x.early(0);
        int[][] rows = {{MAX, MAX}, {1, MIN}, {MAX, -1}, {1, 0}, {0, 0}, {999, 999}};
        for (int i = 0; i < rows.length; i++) {
            x.secret(C, 10 + i);
            again(x);
            x.alter(S, 8, rows[i][0]);
            x.step(S);
            due("taken", x.message(C, 6), 1);
            due("early letters", x.count(5), i + 1);
            due("together", x.count(6), rows[i][1]);
            x.drop(C);
        }
    }

    private static void letterSumsGoRound() {
        name("what the letters told, together, goes round at 32 bits");
        for (int side = 0; side < 2; side++) {
            ToyGreeting x = joined();
            int lock = mix(x.side(side, 7), side, 0);
            int[][] rows = {{MAX, MAX}, {1, MIN}, {MAX, -1}, {1, 0}, {MIN, MIN}, {MIN, 0}, {-1, -1}, {999, 998}};
            x.update(1 - side);
            x.copy(side, 0);
            x.drop(side);
            for (int i = 0; i < rows.length; i++) {
                int sealed = rows[i][0] ^ (mix(lock, i) & 1023);
                comes(x, side, 0, LETTER, sealed, mix(lock, sealed, i));
                due("joined", x.side(side, 0), JOINED);
                due("letters that came to " + side, x.count(7 + side), i + 1);
                due("together", x.count(9 + side), rows[i][1]);
            }
        }
    }

    private static void ageGoesRound() {
        name("AGE: NOW less when the ticket came, and ADD, goes round at 32 bits");
        int[][] rows = {{MAX, 0, MAX}, {MAX, 1, MIN}, {MAX, 99, MIN + 98}, {MIN, 0, MIN}, {-1, 1, 0}, {-2, 1, -1}};
        for (int[] row : rows) {
            ToyGreeting x = joined();
            x.ticket(99);
            x.alter(C, 2, row[0]);
            x.step(C);
            if (row[1] > 0) {
                x.pass(row[1]);
            }
            again(x);
            due("age of " + row[1] + " with " + row[0], x.message(S, 6), row[2]);
            due("binder", x.message(S, 7), Model.binder(x.held(3), 1, first(x, S)));
            x.step(S);
            due("resumed", x.message(C, 5), 1);
        }
        int[][] off = {{MIN, 0}, {MAX, 0}, {MIN + 2, 0}, {MIN + 3, 0}, {MAX - 2, 0}, {-3, 0}, {-2, 1}, {2, 1}, {3, 0}};
        for (int[] row : off) {
            for (int late = 0; late < 5; late += 2) {
                ToyGreeting x = withTicket(99);
                x.early(1);
                if (late > 0) {
                    x.pass(late);
                }
                again(x);
                x.alter(S, 6, x.message(S, 6) + row[0]);
                x.alter(S, 7, Model.binder(x.held(3), 1, first(x, S)));
                x.step(S);
                due("resumed", x.message(C, 5), 1);
                due("taken of an age that is off by " + row[0], x.message(C, 6), row[1]);
            }
        }
    }

    private static void calls512() {
        name("an object is used for at most 512 calls");
        ToyGreeting x = new ToyGreeting();
        for (int i = 1; i <= 512; i++) {
            due("pass, call " + i, x.pass(99), 99 * i);
        }
        ToyGreeting y = new ToyGreeting();
        y.guess(3);
        y.hello();
        y.step(S);
        y.step(C);
        y.step(S);
        for (int i = 1; i <= 506; i++) {
            due("ticket", y.ticket(i % 100), i);
        }
        due("gone, the 512th call", y.count(12), 498);
        for (int side = 0; side < 2; side++) {
            ToyGreeting z = new ToyGreeting();
            z.guess(3);
            z.hello();
            z.step(S);
            z.step(C);
            z.step(S);
            for (int i = 1; i <= 253; i++) {
                z.say(side, 999);
                z.step(1 - side);
            }
            due("what they told, the 512th call", z.count(10 - side), 253 * 999);
            ToyGreeting u = new ToyGreeting();
            u.guess(3);
            u.hello();
            u.step(S);
            u.step(C);
            u.step(S);
            for (int i = 1; i <= 253; i++) {
                due("update", u.update(side), i);
                u.step(1 - side);
            }
            due("epoch, the 512th call", u.side(1 - side, 9 - side), 253);
        }
        ToyGreeting w = new ToyGreeting();
        for (int i = 0; i < 256; i++) {
            due("hello", w.hello(), Math.min(8, i + 1));
            due("fresh", w.fresh(C), ASKED);
        }
    }

    // ---- groups, versions, shares

    private static void shares() {
        name("the SHARE of a SECRET in a GROUP, of secrets 1 to 999");
        for (int group = 0; group < 4; group++) {
            ToyGreeting x = new ToyGreeting();
            int prime = PRIME[group];
            due("of 1", x.share(group, 1), BASE[group]);
            due("of the prime less 1", x.share(group, prime - 1), 1);
            due("of half of that", x.share(group, (prime - 1) / 2), prime - 1);
            due("of the prime", x.share(group, prime), BASE[group]);
            due("of twice the prime less 1", x.share(group, 2 * (prime - 1)), 1);
            due("of 999", x.share(group, 999), x.share(group, 999 % (prime - 1)));
            due("of 998", x.share(group, 998), x.share(group, 998 % (prime - 1)));
            due("of 512", x.share(group, 512), x.share(group, 512 % (prime - 1)));
            due("of 511", x.share(group, 511), x.share(group, 511 % (prime - 1)));
            due("of 0", x.share(group, 0), OUTSIDE);
            due("of 1000", x.share(group, 1000), OUTSIDE);
            for (int side = 0; side < 2; side++) {
                for (int s : new int[] {1, prime - 2, prime - 1, prime, 999}) {
                    ToyGreeting y = new ToyGreeting();
                    y.guess(group);
                    y.offer(S, 7, 1 << group);
                    y.secret(side, s);
                    y.hello();
                    if (side == S) {
                        y.step(S);
                    }
                    due("the share that is sent", y.message(1 - side, side == C ? 4 : 3), y.share(group, s));
                }
            }
        }
    }

    private static void commons() {
        name("the COMMON of a SHARE (1 to the PRIME less 1) and a SECRET");
        for (int group = 0; group < 4; group++) {
            int prime = PRIME[group];
            for (int share : new int[] {1, 2, prime - 2, prime - 1}) {
                for (int s : new int[] {1, 2, prime - 2, prime - 1, prime, 998, 999}) {
                    int common = 1;
                    for (int i = 0; i < s; i++) {
                        common = common * share % prime;
                    }
                    serverTakes(group, share, s, common);
                    clientTakes(group, share, s, common);
                }
            }
        }
    }

    private static void serverTakes(int group, int share, int s, int common) {
        ToyGreeting x = new ToyGreeting();
        x.guess(group);
        x.offer(S, 7, 1 << group);
        x.secret(S, s);
        x.hello();
        x.alter(S, 4, share);
        x.copy(S, 0);
        x.step(S);
        int key = mix(7, common, 0);
        comes(x, S, 0, FINISH, mix(key, x.side(S, 2), 2));
        due("server's state, share " + share + ", secret " + s + ", group " + group, x.side(S, 0), JOINED);
        due("server's key", x.side(S, 6), key);
    }

    private static void clientTakes(int group, int share, int s, int common) {
        ToyGreeting x = new ToyGreeting();
        x.guess(group);
        x.offer(S, 7, 1 << group);
        x.hello();
        x.step(S);
        x.secret(C, s);
        x.copy(C, 0);
        x.drop(C);
        int key = mix(7, common, 0);
        int[] g = {GREETING, 3, group, share, 0, 0, 0, 0, 0};
        g[7] = mix(key, mix(x.side(C, 2), Arrays.copyOf(g, 7)), 1);
        comes(x, C, 0, g);
        due("client's state, share " + share + ", secret " + s + ", group " + group, x.side(C, 0), JOINED);
        due("client's key", x.side(C, 6), key);
    }

    private static void versionsAndGroupsOfBoth() {
        name("the greatest VERSION and the greatest GROUP that both have, of all SETS; MARK, if there is one above");
        for (int ours = 1; ours <= 7; ours++) {
            for (int theirs = 1; theirs <= 7; theirs++) {
                ToyGreeting x = new ToyGreeting();
                x.guess(3);
                x.offer(C, ours, 15);
                x.offer(S, theirs, 15);
                x.hello();
                x.step(S);
                int version = places(ours & theirs);
                due("state of " + ours + ", " + theirs, x.side(S, 0), version == 0 ? FAILED : GREETED);
                due("reason", x.side(S, 1), version == 0 ? 2 : 0);
                due("version of " + ours + ", " + theirs, x.message(C, 1), version == 0 ? NOT : version);
                due("mark", x.message(C, 4), version == 0 ? NOT : places(theirs) > version ? 1 : 0);
            }
        }
        for (int ours = 1; ours <= 15; ours++) {
            for (int theirs = 1; theirs <= 15; theirs++) {
                ToyGreeting x = new ToyGreeting();
                x.guess(3);
                x.offer(C, 7, ours);
                x.offer(S, 7, theirs);
                x.hello();
                int told = x.message(S, 3);
                x.step(S);
                int liked = places(ours & theirs) - 1;
                due("state of " + ours + ", " + theirs, x.side(S, 0),
                    liked < 0 ? FAILED : liked == told ? GREETED : RETRIED);
                due("reason", x.side(S, 1), liked < 0 ? 3 : 0);
                due("group", liked < 0 ? x.count(1) : x.message(C, liked == told ? 2 : 1), liked < 0 ? 0 : liked);
            }
        }
    }

    /** The place of the highest bit of a set, from 1 on; 0 of none. */
    private static int places(int set) {
        return 32 - Integer.numberOfLeadingZeros(set);
    }

    private static void versionsOfTheClient() {
        name("the VERSION of a greeting is of the client's VERSIONS, 1 to 3");
        for (int set = 1; set <= 7; set++) {
            for (int version : new int[] {MIN, -31, -30, -1, 0, 1, 2, 3, 4, 8, 32, 33, 34, 35, MAX}) {
                ToyGreeting x = greeting(7);
                x.offer(C, set, 15);
                x.alter(C, 1, version);
                x.alter(C, 4, 1);
                x.step(C);
                boolean has = version >= 1 && version <= 3 && (set & 1 << version - 1) != 0;
                failed(x, C, !has ? 2 : places(set) > version ? 7 : 8);
            }
        }
    }

    private static void groupOfTheHello() {
        name("the GROUP: GUESS, if it is of its GROUPS, else the least of them");
        for (int set = 1; set <= 15; set++) {
            for (int guess = 0; guess < 4; guess++) {
                ToyGreeting x = new ToyGreeting();
                x.guess(guess);
                x.offer(C, 7, set);
                x.hello();
                int least = Integer.numberOfTrailingZeros(set);
                due("guess " + guess + " of " + set, x.message(S, 3), (set & 1 << guess) != 0 ? guess : least);
            }
        }
    }

    // ---- tickets, seen, digests

    private static void threeTickets() {
        name("the SERVER has TICKETS, 3 at most, each with a number 1, 2, .. as they are made");
        ToyGreeting x = joined();
        due("kept(0)", x.kept(0, 0), UNKNOWN);
        for (int i = 1; i <= 9; i++) {
            due("ticket", x.ticket(i), i);
            int n = Math.min(3, i);
            due("tickets", x.count(3), n);
            for (int k = 0; k < n; k++) {
                due("number of " + k, x.kept(k, 0), i - n + 1 + k);
                due("life of " + k, x.kept(k, 1), i - n + 1 + k);
                due("add of " + k, x.kept(k, 4), mix(i - n + 1 + k, 77));
            }
            due("no more", x.kept(n, 0), UNKNOWN);
            if (i == 1 || i == 2 || i == 3) {
                x.step(C);
                x.copy(C, 0);
            } else {
                x.drop(C);
            }
        }
        for (int back = 0; back < 4; back++) {
            ToyGreeting y = joined();
            y.ticket(50);
            y.step(C);
            for (int i = 0; i < back; i++) {
                y.ticket(50);
                y.drop(C);
            }
            again(y);
            y.step(S);
            due("resumed when " + back + " were made behind it", y.message(C, 5), back < 3 ? 1 : 0);
        }
    }

    private static void fourSeen() {
        name("SEEN: 4 at most, the oldest goes first");
        for (int behind = 0; behind < 6; behind++) {
            ToyGreeting x = withTicket(99);
            x.early(7);
            for (int i = 0; i <= behind; i++) {
                x.secret(C, 50 + i);
                again(x);
                if (i == 0) {
                    x.copy(S, 0);
                }
                x.step(S);
                due("taken", x.message(C, 6), 1);
                due("seen", x.count(4), Math.min(4, i + 1));
                x.drop(C);
            }
            x.fresh(S);
            x.inject(S, 0);
            x.step(S);
            due("taken again with " + behind + " behind it", x.message(C, 6), behind < 4 ? 0 : 1);
            due("early letters", x.count(5), behind < 4 ? behind + 1 : behind + 2);
            due("seen", x.count(4), Math.min(4, behind + 1));
        }
        ToyGreeting x = new ToyGreeting();
        due("none at first", x.count(4), 0);
    }

    private static void digestOfIdle() {
        name("a SIDE that is not IDLE has a DIGEST: 1 when it was IDLE");
        ToyGreeting x = new ToyGreeting();
        due("client's", x.side(C, 2), 1);
        due("server's", x.side(S, 2), 1);
        x.hello();
        x.copy(S, 0);
        x.step(S);
        due("asked", x.side(C, 2) == 1 ? 1 : 0, 0);
        due("retried", x.side(S, 2) == 1 ? 1 : 0, 0);
        int asked = x.side(C, 2);
        x.fresh(C);
        x.fresh(S);
        due("client's, idle again", x.side(C, 2), 1);
        due("server's, idle again", x.side(S, 2), 1);
        x.hello();
        due("asked again", x.side(C, 2), asked);
        x.fresh(C);
        clear(x, S);
        for (int side = 0; side < 2; side++) {
            x.inject(side, 0);
            x.alter(side, 0, UPDATE);
            x.step(side);
            failed(x, side, 1);
            due("failed with nothing taken in", x.side(side, 2), 1);
        }
        ToyGreeting y = greeting(7);
        int digest = y.side(C, 2);
        y.alter(C, 0, 0);
        y.step(C);
        failed(y, C, 1);
        due("failed, the digest stays", y.side(C, 2), digest);
    }

    private static void takenInOfAHello() {
        name("TAKEN IN: a HELLO's numbers 0 to 8, one by one");
        for (int i = 5; i < 9; i++) {
            ToyGreeting x = new ToyGreeting();
            x.hello();
            due("client's", x.side(C, 2), mix(1, first(x, S)));
            x.alter(S, i, 12345);
            int[] m = first(x, S);
            x.step(S);
            due("server's with number " + i, x.side(S, 2), mix(mix(1, m), 2, 3, 0, 0, 0, 0, 0, 0, 0));
            ToyGreeting y = new ToyGreeting();
            y.guess(3);
            y.hello();
            y.alter(S, i, 12345);
            m = first(y, S);
            y.step(S);
            due("greeted", y.side(S, 0), GREETED);
            due("server's with number " + i, y.side(S, 2), mix(mix(1, m), Arrays.copyOf(first(y, C), 7)));
            y.step(C);
            failed(y, C, 8);
        }
    }

    private static void takenInOfARetry() {
        name("TAKEN IN: a RETRY's numbers 0 to 8, one by one");
        for (int i = 1; i < 9; i++) {
            ToyGreeting x = new ToyGreeting();
            x.hello();
            int asked = x.side(C, 2);
            x.step(S);
            x.alter(C, i, i == 1 ? 2 : 12345);
            int[] retry = first(x, C);
            x.step(C);
            due("asked", x.side(C, 0), ASKED);
            due("client's with number " + i, x.side(C, 2), mix(mix(asked, retry), first(x, S)));
        }
    }

    private static void takenInOfAGreeting() {
        name("TAKEN IN: of a GREETING the numbers 0 to 6");
        for (int i = 6; i < 9; i++) {
            ToyGreeting x = greeting(7);
            int asked = x.side(C, 2);
            x.alter(C, i, 12345);
            int[] m = first(x, C);
            x.step(C);
            due("client's with number " + i, x.side(C, 2), mix(asked, Arrays.copyOf(m, 7)));
            due("the same as the server's", x.side(C, 2) == x.side(S, 2) ? 1 : 0, i == 6 ? 0 : 1);
            due("state", x.side(C, 0), i == 8 ? JOINED : FAILED);
            due("reason", x.side(C, 1), i == 8 ? 0 : 8);
        }
    }

    private static void takenInOfNoOther() {
        name("TAKEN IN: none but HELLO, RETRY, GREETING");
        for (int side = 0; side < 2; side++) {
            ToyGreeting x = joined();
            int digest = x.side(side, 2);
            x.say(1 - side, 5);
            x.update(1 - side);
            x.step(side);
            x.step(side);
            due("letter, update", x.side(side, 2), digest);
            due("of the sender", x.side(1 - side, 2), digest);
            x.ticket(5);
            x.step(C);
            due("ticket", x.side(side, 2), digest);
            x.say(1 - side, 5);
            x.alter(side, 2, 0);
            x.step(side);
            failed(x, side, 9);
            due("a wrong tag", x.side(side, 2), digest);
        }
        ToyGreeting y = greeting(7);
        y.step(C);
        due("client's of a finish", y.side(C, 2), y.side(S, 2));
        int digest = y.side(S, 2);
        y.step(S);
        due("server's of a finish", y.side(S, 2), digest);
    }

    // ---- 8 on the way

    private static void eightHellos() {
        name("8 on the way at most: one more HELLO is gone");
        ToyGreeting x = new ToyGreeting();
        for (int i = 1; i <= 8; i++) {
            due("hello", x.hello(), i);
            due("on the way", x.count(2), i);
            due("gone", x.count(12), 0);
            x.fresh(C);
        }
        for (int i = 1; i <= 3; i++) {
            x.secret(C, 900 + i);
            due("one more", x.hello(), 8);
            due("gone", x.count(12), i);
            due("asked all the same", x.side(C, 0), ASKED);
            int[] m = {1, 7, 15, 0, x.share(0, 900 + i), 0, 0, 0, -1};
            due("taken in all the same", x.side(C, 2), mix(1, m));
            x.fresh(C);
        }
        for (int i = 8; i > 0; i--) {
            firstIs(x, S, 1, 7, 15, 0, 10, 0, 0, 0, -1);
            due("drop", x.drop(S), i - 1);
        }
        due("and there is room again", x.hello(), 1);
        due("gone", x.count(12), 3);
    }

    private static void eightAheadOfAHelloOfARetry() {
        name("8 on the way at most: one more HELLO that a RETRY asked for is gone");
        for (int ahead = 7; ahead <= 8; ahead++) {
            ToyGreeting x = new ToyGreeting();
            x.hello();
            x.copy(S, 0);
            for (int i = 1; i < ahead; i++) {
                x.inject(S, 0);
            }
            int asked = x.side(C, 2);
            comes(x, C, 0, RETRY, 2);
            due("asked", x.side(C, 0), ASKED);
            due("on the way", x.count(2), 8);
            due("gone", x.count(12), ahead - 7);
            int[] m = {1, 7, 15, 2, x.share(2, 3), 0, 0, 0, -1};
            due("taken in", x.side(C, 2), mix(mix(asked, 2, 2, 0, 0, 0, 0, 0, 0, 0), m));
            for (int i = 1; i < 8; i++) {
                x.drop(S);
            }
            due("the last", x.message(S, 3), ahead == 7 ? 2 : 0);
        }
    }

    private static void eightAheadOfARetry() {
        name("8 on the way at most: one more RETRY is gone");
        for (int ahead = 7; ahead <= 8; ahead++) {
            ToyGreeting x = new ToyGreeting();
            x.hello();
            x.copy(S, 0);
            for (int i = 0; i < ahead; i++) {
                x.inject(C, 0);
            }
            int[] m = first(x, S);
            x.step(S);
            due("retried", x.side(S, 0), RETRIED);
            due("taken in", x.side(S, 2), mix(mix(1, m), 2, 3, 0, 0, 0, 0, 0, 0, 0));
            due("on the way", x.count(1), 8);
            due("gone", x.count(12), ahead - 7);
            for (int i = 1; i < 8; i++) {
                x.drop(C);
            }
            due("the last", x.message(C, 0), ahead == 7 ? RETRY : HELLO);
        }
    }

    private static void eightAheadOfAGreeting() {
        name("8 on the way at most: one more GREETING is gone");
        for (int ahead = 7; ahead <= 8; ahead++) {
            ToyGreeting x = new ToyGreeting();
            x.guess(3);
            x.hello();
            x.copy(S, 0);
            for (int i = 0; i < ahead; i++) {
                x.inject(C, 0);
            }
            int[] m = first(x, S);
            x.step(S);
            due("greeted", x.side(S, 0), GREETED);
            due("taken in", x.side(S, 2), mix(mix(1, m), 3, 3, 3, x.share(3, 4), 0, 0, 0));
            due("on the way", x.count(1), 8);
            due("gone", x.count(12), ahead - 7);
            for (int i = 1; i < 8; i++) {
                x.drop(C);
            }
            due("the last", x.message(C, 0), ahead == 7 ? GREETING : HELLO);
        }
    }

    private static void eightAheadOfAFinish() {
        name("8 on the way at most: one more FINISH is gone");
        for (int ahead = 7; ahead <= 8; ahead++) {
            ToyGreeting x = greeting(7);
            x.copy(C, 0);
            for (int i = 0; i < ahead; i++) {
                x.inject(S, 0);
            }
            x.step(C);
            due("joined", x.side(C, 0), JOINED);
            due("on the way", x.count(2), 8);
            due("gone", x.count(12), ahead - 7);
            for (int i = 1; i < 8; i++) {
                x.drop(S);
            }
            due("the last", x.message(S, 0), ahead == 7 ? FINISH : GREETING);
        }
    }

    private static void eightTickets() {
        name("8 on the way at most: one more TICKET is gone");
        ToyGreeting x = joined();
        for (int i = 1; i <= 10; i++) {
            due("ticket", x.ticket(i), i);
            due("on the way", x.count(1), Math.min(8, i));
            due("gone", x.count(12), Math.max(0, i - 8));
            due("kept all the same", x.kept(x.count(3) - 1, 0), i);
        }
        for (int i = 1; i <= 8; i++) {
            due("number", x.message(C, 1), i);
            x.step(C);
        }
        due("the last that came", x.held(0), 8);
        due("and there is room again", x.ticket(1), 11);
        due("on the way", x.count(1), 1);
    }

    private static void eightLetters() {
        name("8 on the way at most: one more LETTER is gone");
        for (int side = 0; side < 2; side++) {
            int to = 1 - side;
            ToyGreeting x = joined();
            for (int i = 1; i <= 9; i++) {
                int lock = mix(x.side(side, 7), to, 0);
                due("say", x.say(side, 100 + i), (100 + i) ^ (mix(lock, i - 1) & 1023));
                due("on the way", x.count(1 + to), Math.min(8, i));
                due("on the way to the other", x.count(1 + side), 0);
                due("gone", x.count(12), i == 9 ? 1 : 0);
                due("count all the same", x.side(side, 10 + to), i);
            }
            for (int i = 1; i <= 8; i++) {
                due("step", x.step(to), LETTER);
                due("letters", x.count(7 + to), i);
            }
            due("told", x.count(9 + to), 836);
            x.say(side, 5);
            x.step(to);
            failed(x, to, 9);
        }
    }

    private static void eightUpdates() {
        name("8 on the way at most: one more UPDATE is gone");
        for (int side = 0; side < 2; side++) {
            int to = 1 - side;
            ToyGreeting x = joined();
            for (int i = 1; i <= 9; i++) {
                due("update", x.update(side), i);
                due("on the way", x.count(1 + to), Math.min(8, i));
                due("gone", x.count(12), i == 9 ? 1 : 0);
                due("epoch all the same", x.side(side, 8 + to), i);
                due("count all the same", x.side(side, 10 + to), i);
            }
            for (int i = 1; i <= 8; i++) {
                due("step", x.step(to), UPDATE);
                due("epoch", x.side(to, 8 + to), i);
            }
            x.update(side);
            x.step(to);
            failed(x, to, 9);
        }
    }

    private static void eightInTheirOrder() {
        name("on the way to each SIDE in the order in which they were sent");
        for (int side = 0; side < 2; side++) {
            int to = 1 - side;
            ToyGreeting x = joined();
            List<Integer> sent = new ArrayList<>();
            for (int round = 0; round < 12; round++) {
                for (int i = 0; i < 1 + round % 5; i++) {
                    int sealed = x.say(side, 71 * round % 1000);
                    if (sent.size() < 8) {
                        sent.add(sealed);
                    }
                }
                due("on the way", x.count(1 + to), sent.size());
                for (int i = 0; i < round % 4 && !sent.isEmpty(); i++) {
                    due("the first", x.message(to, 1), sent.remove(0));
                    due("left", x.drop(to), sent.size());
                }
            }
        }
        ToyGreeting x = fullOfHellos();
        x.copy(S, 0);
        fill(x, C, 0);
        due("each side has its own 8", x.count(1) + x.count(2), 16);
        due("none is gone", x.count(12), 0);
    }
}
