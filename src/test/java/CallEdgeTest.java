import java.util.Arrays;

/** Each promise's own bounds: the last number that is taken on both sides, nothing there, and as much as can be. */
final class CallEdgeTest extends Play {
    public static void main(String[] args) {
        newObject();
        typeTakes();
        eraseAnswers();
        faultAnswers();
        settingsAnswers();
        offerTakes();
        secretTakes();
        guessTakes();
        earlyTakes();
        helloAnswers();
        stepAnswers();
        ticketTakes();
        ticketGivesWay();
        ticketNot();
        ticketOfItsOwnVersion();
        forgetAnswers();
        sayTakes();
        sayNot();
        updateAnswers();
        freshAnswers();
        freshLeaves();
        passTakes();
        alterTakes();
        dropAnswers();
        copyTakes();
        injectTakes();
        injectFull();
        sideOfNotJoined();
        sideOfJoined();
        messageAnswers();
        keptAnswers();
        heldAnswers();
        shareTakes();
        countAnswers();
        end("CallEdgeTest");
    }

    // ---- what is told

    private static void newObject() {
        name("promise 1: as told; no letters");
        ToyGreeting x = new ToyGreeting();
        for (int what = 0; what < 13; what++) {
            due("count(" + what + ")", x.count(what), 0);
        }
        for (int side = 0; side < 2; side++) {
            int[] want = {IDLE, 0, 1, NONE, NONE, NONE, NONE, NONE, NONE, NONE, NONE, NONE};
            for (int what = 0; what < 12; what++) {
                due("side(" + side + ", " + what + ")", x.side(side, what), want[what]);
            }
            due("versions", x.offer(side, 7, 15), 7);
            due("secret", x.secret(side, 3 + side), 3 + side);
            due("nothing on the way", x.message(side, 0), NOT);
            for (int place = 0; place < 4; place++) {
                due("nothing copied", x.inject(side, place), NOT);
            }
        }
        due("guess", x.guess(0), 0);
        due("early", x.early(NONE), NONE);
        due("client's ticket", x.held(0), NOT);
        due("server's tickets", x.kept(0, 0), UNKNOWN);
        due("an empty text", x.erase(), 0);
        due("two objects have nothing alike", x.pass(5) + new ToyGreeting().count(0), 5);
        ToyGreeting y = new ToyGreeting();
        y.hello();
        due("all groups at first", y.message(S, 2), 15);
        y.step(S);
        due("the server's too", y.message(C, 1), 3);
    }

    private static void typeTakes() {
        name("promise 2: type: 0 to 255; FULL of 200");
        for (int letter : new int[] {0, 255}) {
            ToyGreeting x = new ToyGreeting();
            due("a wrong one", x.type(letter == 0 ? -1 : 256), OUTSIDE);
            for (int i = 1; i <= 200; i++) {
                due("type", x.type(letter), i);
            }
            due("the 201st", x.type(letter), FULL);
            due("a wrong 201st", x.type(letter == 0 ? -1 : 256), OUTSIDE);
            due("letters", x.count(11), 200);
        }
    }

    private static void eraseAnswers() {
        name("promise 3: erase: how many letters it had, 0 to 200");
        for (int n : new int[] {0, 1, 199, 200}) {
            ToyGreeting x = new ToyGreeting();
            write(x, "x".repeat(n));
            due("erase", x.erase(), n);
            due("once more", x.erase(), 0);
            due("letters", x.count(11), 0);
        }
    }

    private static void faultAnswers() {
        name("promise 4: fault: the place, from 0 to the length; NONE");
        String[] texts = {"", "x", "guess", "guess 4", "guess 0", " ".repeat(199), " ".repeat(199) + "x", " ".repeat(200)};
        int[] wants = {0, 0, 5, 6, NONE, 199, 199, 200};
        for (int i = 0; i < texts.length; i++) {
            ToyGreeting x = new ToyGreeting();
            write(x, texts[i]);
            due("fault", x.fault(), wants[i]);
            due("once more", x.fault(), wants[i]);
            due("letters", x.count(11), texts[i].length());
        }
    }

    private static void settingsAnswers() {
        name("promise 5: settings: how many clauses there were, 1 to 24; NOT");
        for (int n = 0; n <= 25; n++) {
            ToyGreeting x = new ToyGreeting();
            for (int i = 0; i < n; i++) {
                write(x, (i == 0 ? "guess" : ";guess") + i % 4);
            }
            int letters = x.count(11);
            boolean done = n >= 1 && n <= 24;
            due("settings of " + n, x.settings(), done ? n : NOT);
            due("letters", x.count(11), done ? 0 : letters);
            due("guess", x.guess(0), done ? (n - 1) % 4 : 0);
        }
    }

    private static void offerTakes() {
        name("promise 6: offer: VERSIONS 1 to 7, GROUPS 1 to 15: the VERSIONS that it had");
        for (int side = 0; side < 2; side++) {
            ToyGreeting x = new ToyGreeting();
            int had = 7;
            for (int versions = 1; versions <= 7; versions++) {
                for (int groups = 1; groups <= 15; groups++) {
                    due("offer", x.offer(side, versions, groups), had);
                    had = versions;
                    due("the other's", x.offer(1 - side, 7, 15), 7);
                }
            }
            due("both of the last", x.offer(side, 7, 15), 7);
            due("0 versions", x.offer(side, 0, 15), OUTSIDE);
            due("8 as versions", x.offer(side, 8, 15), OUTSIDE);
            due("0 groups", x.offer(side, 7, 0), OUTSIDE);
            due("16 as groups", x.offer(side, 7, 16), OUTSIDE);
            due("0 groups, other versions", x.offer(side, 3, 0), OUTSIDE);
            due("other groups, 0 versions", x.offer(side, 0, 3), OUTSIDE);
            due("nothing changed", x.offer(side, 7, 15), 7);
        }
        ToyGreeting x = new ToyGreeting();
        x.offer(C, 8, 1);
        x.hello();
        due("groups of a refused offer", x.message(S, 2), 15);
    }

    private static void secretTakes() {
        name("promise 7: secret: 1 to 999: what it was");
        for (int side = 0; side < 2; side++) {
            int had = 3 + side;
            for (int s = 1; s <= 999; s += 2) {
                ToyGreeting x = new ToyGreeting();
                due("at first", x.secret(side, s), 3 + side);
                due("then", x.secret(side, 1000 - s), s);
                due("then", x.secret(side, had), 1000 - s);
                due("the other's", x.secret(1 - side, 1), 4 - side);
            }
            ToyGreeting x = new ToyGreeting();
            due("0", x.secret(side, 0), OUTSIDE);
            due("1000", x.secret(side, 1000), OUTSIDE);
            due("nothing changed", x.secret(side, 1), had);
        }
    }

    private static void guessTakes() {
        name("promise 8: guess: 0 to 3: what it was");
        ToyGreeting x = new ToyGreeting();
        int had = 0;
        for (int group : new int[] {3, 2, 1, 0, 1, 3, 0}) {
            due("guess", x.guess(group), had);
            had = group;
            due("-1", x.guess(-1), OUTSIDE);
            due("4", x.guess(4), OUTSIDE);
        }
    }

    private static void earlyTakes() {
        name("promise 9: early: 0 to 999, NONE: none any more: what it was, NONE");
        ToyGreeting x = new ToyGreeting();
        int had = NONE;
        for (int v : new int[] {NONE, 0, NONE, 999, 998, 1, NONE, NONE}) {
            due("early", x.early(v), had);
            had = v;
            due("-2", x.early(-2), OUTSIDE);
            due("1000", x.early(1000), OUTSIDE);
        }
        for (int v = 0; v <= 999; v++) {
            ToyGreeting y = new ToyGreeting();
            due("early", y.early(v), NONE);
            due("what it was", y.early(0), v);
        }
    }

    // ---- what is done

    private static void helloAnswers() {
        name("promise 10: hello: MESSAGES on the way to the SERVER; NOT: it is not IDLE");
        ToyGreeting x = new ToyGreeting();
        for (int i = 1; i <= 10; i++) {
            due("hello", x.hello(), Math.min(8, i));
            due("asked", x.hello(), NOT);
            due("on the way", x.count(2), Math.min(8, i));
            due("on the way to the client", x.count(1), 0);
            x.fresh(C);
        }
        ToyGreeting y = joined();
        due("joined", y.hello(), NOT);
        y.say(S, 1);
        y.alter(C, 2, 0);
        y.step(C);
        due("failed", y.hello(), NOT);
        due("on the way", y.count(2), 0);
        y.fresh(C);
        due("idle", y.hello(), 1);
        due("whatever the server is", y.side(S, 0), JOINED);
    }

    private static void stepAnswers() {
        name("promise 11: step: its kind, whatever that is; NOT: there is none");
        for (int side = 0; side < 2; side++) {
            ToyGreeting x = new ToyGreeting();
            due("none", x.step(side), NOT);
            x.hello();
            x.copy(S, 0);
            x.drop(S);
            for (int kind : new int[] {MIN, FULL, NOT, NONE, 0, 4, 5, 6, 7, 8, 257, MAX}) {
                x.inject(side, 0);
                x.inject(side, 0);
                x.alter(side, 0, kind);
                due("step", x.step(side), kind);
                due("the first alone is not on the way any more", x.count(1 + side), 1);
                due("on the way to the other", x.count(2 - side), 0);
                x.drop(side);
                due("none", x.step(side), NOT);
            }
        }
    }

    private static void ticketTakes() {
        name("promise 12: ticket: a LIFE 0 to 99: its number");
        for (int life = 0; life <= 99; life++) {
            ToyGreeting x = joined();
            x.pass(1);
            due("ticket", x.ticket(life), 1);
            firstIs(x, C, TICKET, 1, mix(1, 77), life);
            int[] want = {1, life, 1, mix(x.side(S, 7), 1), mix(1, 77)};
            for (int what = 0; what < 5; what++) {
                due("kept(0, " + what + ")", x.kept(0, what), want[what]);
            }
            due("-1", x.ticket(-1), OUTSIDE);
            due("100", x.ticket(100), OUTSIDE);
            due("none was made", x.ticket(life), 2);
            due("tickets", x.count(3), 2);
        }
    }

    private static void ticketGivesWay() {
        name("promise 12: ticket: if there are 3, the oldest goes first");
        ToyGreeting x = joined();
        for (int i = 1; i <= 7; i++) {
            x.pass(i);
            due("ticket", x.ticket(10 * i), i);
            due("tickets", x.count(3), Math.min(i, 3));
            int oldest = Math.max(1, i - 2);
            for (int k = 0; k < x.count(3); k++) {
                int n = oldest + k;
                int[] want = {n, 10 * n, n * (n + 1) / 2, mix(x.side(S, 7), n), mix(n, 77)};
                for (int what = 0; what < 5; what++) {
                    due("kept(" + k + ", " + what + ")", x.kept(k, what), want[what]);
                }
            }
        }
        clear(x, C);
        greet(x);
        due("the numbers go on", x.ticket(1), 8);
    }

    private static void ticketNot() {
        name("promise 12: ticket: NOT: it is not JOINED, or VERSION is not 3");
        ToyGreeting x = new ToyGreeting();
        x.guess(0);
        due("idle", x.ticket(5), NOT);
        x.hello();
        x.step(S);
        due("retried", x.ticket(5), NOT);
        x.step(C);
        x.step(S);
        due("greeted", x.ticket(5), NOT);
        x.step(C);
        due("the client alone is joined", x.ticket(5), NOT);
        x.step(S);
        due("joined", x.ticket(5), 1);
        x.fresh(C);
        due("whatever the client is", x.ticket(5), 2);
        x.offer(S, 1, 1);
        due("the version is the one that was agreed on", x.ticket(5), 3);
        x.update(C);
        x.hello();
        x.step(S);
        due("failed", x.side(S, 0), FAILED);
        due("failed", x.ticket(5), NOT);
        x.fresh(S);
        due("idle again", x.ticket(5), NOT);
        due("tickets", x.count(3), 3);
        for (int version = 1; version <= 3; version++) {
            for (int side = 0; side < 2; side++) {
                ToyGreeting y = new ToyGreeting();
                y.guess(3);
                y.offer(side, (1 << version) - 1, 15);
                y.offer(1 - side, side == C ? (1 << version) - 1 : 7, 15);
                greet(y);
                y.offer(S, 7, 15);
                due("version", y.side(S, 3), version);
                due("ticket of version " + version, y.ticket(5), version == 3 ? 1 : NOT);
                due("on the way", y.count(1), version == 3 ? 1 : 0);
                due("tickets", y.count(3), version == 3 ? 1 : 0);
            }
        }
    }

    private static void ticketOfItsOwnVersion() {
        name("promise 12: ticket: NOT: VERSION that the SERVER agreed on is not 3, whatever the client's is");
        ToyGreeting x = joined();
        x.fresh(C);
        x.offer(C, 3, 15);
        x.hello();
        x.copy(S, 0);
        x.drop(S);
        int[] g = {GREETING, 2, 3, x.share(3, 4), 1, 0, 0, 0};
        int key = mix(7, Model.common(3, g[3], 3), 0);
        g[7] = mix(key, mix(x.side(C, 2), Arrays.copyOf(g, 7)), 1);
        comes(x, C, 0, g);
        due("client's version", x.side(C, 3), 2);
        due("server's version", x.side(S, 3), 3);
        due("ticket", x.ticket(5), 1);
    }

    private static void forgetAnswers() {
        name("promise 13: forget: its number; NOT: it has none");
        ToyGreeting x = joined();
        due("none yet", x.forget(), NOT);
        for (int i = 1; i <= 5; i++) {
            x.ticket(5);
            due("on the way", x.forget(), NOT);
            x.step(C);
            due("forget", x.forget(), i);
            due("none", x.forget(), NOT);
            due("none", x.held(0), NOT);
        }
        x.ticket(5);
        x.step(C);
        x.ticket(5);
        x.step(C);
        due("the one that came last", x.forget(), 7);
        due("one at most", x.forget(), NOT);
        due("the server keeps its own", x.count(3), 3);
    }

    private static void sayTakes() {
        name("promise 14: say: v 0 to 999: SEALED");
        for (int side = 0; side < 2; side++) {
            for (int v = 0; v <= 999; v++) {
                ToyGreeting x = joined();
                int lock = mix(x.side(side, 7), 1 - side, 0);
                int sealed = v ^ (mix(lock, 0) & 1023);
                due("say", x.say(side, v), sealed);
                due("sealed", x.message(1 - side, 1), sealed);
                due("tag", x.message(1 - side, 2), mix(lock, sealed, 0));
                x.step(1 - side);
                due("told", x.count(10 - side), v);
                due("-1", x.say(side, -1), OUTSIDE);
                due("1000", x.say(side, 1000), OUTSIDE);
                due("count", x.side(side, 11 - side), 1);
            }
        }
    }

    private static void sayNot() {
        name("promise 14: say: NOT: it is not JOINED, whatever the other is");
        ToyGreeting x = new ToyGreeting();
        x.guess(0);
        for (int i = 0; i < 5; i++) {
            due("client's", x.say(C, 0), NOT);
            due("server's", x.say(S, 0), NOT);
            if (i == 0) {
                x.hello();
            } else {
                x.step(i % 2 == 1 ? S : C);
            }
        }
        due("client is joined", x.side(C, 0), JOINED);
        due("client's", x.say(C, 0) >= 0 ? 1 : 0, 1);
        due("server's", x.say(S, 0), NOT);
        x.step(S);
        due("server's", x.say(S, 0) >= 0 ? 1 : 0, 1);
        x.fresh(C);
        due("client's, idle again", x.say(C, 0), NOT);
        due("server's still", x.say(S, 0) >= 0 ? 1 : 0, 1);
    }

    private static void updateAnswers() {
        name("promise 15: update: EPOCH of that way; NOT: it is not JOINED");
        for (int side = 0; side < 2; side++) {
            ToyGreeting x = joined();
            for (int i = 1; i <= 12; i++) {
                int lock = mix(x.side(side, 7), 1 - side, i - 1);
                due("update", x.update(side), i);
                firstIs(x, 1 - side, UPDATE, mix(lock, -1, i - 1));
                due("epoch", x.side(side, 9 - side), i);
                due("count", x.side(side, 11 - side), i);
                due("epoch of the other way", x.side(side, 8 + side), 0);
                due("count of the other way", x.side(side, 10 + side), 0);
                due("the other side's epoch", x.side(1 - side, 9 - side), i - 1);
                x.step(1 - side);
                due("the other side's epoch then", x.side(1 - side, 9 - side), i);
            }
            x.say(side, 5);
            due("a letter counts, and is no epoch", x.update(side), 13);
            due("count", x.side(side, 11 - side), 14);
            clear(x, 1 - side);
            x.fresh(side);
            due("idle", x.update(side), NOT);
            due("on the way", x.count(2 - side), 0);
        }
        ToyGreeting y = greeting(7);
        due("asked", y.update(C), NOT);
        due("greeted", y.update(S), NOT);
        y.step(C);
        due("joined", y.update(C), 1);
        due("greeted still", y.update(S), NOT);
    }

    private static void freshAnswers() {
        name("promise 16: fresh: IDLE again, whatever it was: its STATE ahead of that");
        for (int side = 0; side < 2; side++) {
            for (int steps = 0; steps <= 6; steps++) {
                ToyGreeting x = new ToyGreeting();
                for (int i = 0; i < steps; i++) {
                    if (i == 0) {
                        x.hello();
                    } else {
                        x.step(i % 2 == 1 ? S : C);
                    }
                }
                int[] client = {IDLE, ASKED, ASKED, ASKED, ASKED, JOINED, JOINED};
                int[] server = {IDLE, IDLE, RETRIED, RETRIED, GREETED, GREETED, JOINED};
                due("fresh", x.fresh(side), side == C ? client[steps] : server[steps]);
                due("the other's", x.side(1 - side, 0), side == C ? server[steps] : client[steps]);
                int[] want = {IDLE, 0, 1, NONE, NONE, NONE, NONE, NONE, NONE, NONE, NONE, NONE};
                for (int what = 0; what < 12; what++) {
                    due("side(" + side + ", " + what + ")", x.side(side, what), want[what]);
                }
                due("once more", x.fresh(side), IDLE);
            }
            ToyGreeting x = joined();
            x.say(1 - side, 1);
            x.alter(side, 2, 0);
            x.step(side);
            due("failed", x.fresh(side), FAILED);
            due("reason", x.side(side, 1), 0);
        }
    }

    private static void freshLeaves() {
        name("promise 16: fresh: what is on the way, TICKETS, the CLIENT's too, SEEN, all that count() tells stay");
        ToyGreeting x = withTicket(99);
        x.early(6);
        x.pass(1);
        greet(x);
        x.say(C, 5);
        x.step(S);
        x.say(S, 8);
        x.step(C);
        x.ticket(5);
        for (int i = 0; i < 9; i++) {
            x.update(C);
        }
        write(x, "gue");
        int[] want = {1, 1, 8, 2, 1, 1, 6, 1, 1, 8, 5, 3, 1};
        for (int i = 0; i < 4; i++) {
            for (int what = 0; what < 13; what++) {
                due("count(" + what + ")", x.count(what), want[what]);
            }
            due("client's ticket", x.held(0), 1);
            due("server's oldest", x.kept(0, 0), 1);
            due("server's second", x.kept(1, 1), 5);
            due("to the client", x.message(C, 0), TICKET);
            due("to the server", x.message(S, 0), UPDATE);
            x.fresh(i % 2);
        }
        ToyGreeting y = withTicket(99);
        y.early(6);
        again(y);
        y.copy(S, 0);
        y.step(S);
        y.fresh(S);
        y.inject(S, 0);
        y.drop(C);
        y.step(S);
        due("seen stays", y.message(C, 6), 0);
    }

    private static void passTakes() {
        name("promise 17: pass: n 1 to 99: NOW");
        ToyGreeting x = new ToyGreeting();
        int now = 0;
        for (int n = 1; n <= 99; n++) {
            now += n;
            due("pass", x.pass(n), now);
            due("0", x.pass(0), OUTSIDE);
            due("100", x.pass(100), OUTSIDE);
            due("now", x.count(0), now);
        }
    }

    // ---- somebody between

    private static void alterTakes() {
        name("promise 18: alter: number 0 to 8 of the first MESSAGE becomes v: what it was");
        for (int side = 0; side < 2; side++) {
            ToyGreeting x = joined();
            x.update(1 - side);
            x.copy(side, 0);
            x.inject(side, 0);
            int[] m = first(x, side);
            int[] values = {MIN, -1, 0, 1, MAX};
            for (int i = 0; i < 9; i++) {
                int was = m[i];
                for (int v : values) {
                    due("alter", x.alter(side, i, v), was);
                    due("it is", x.message(side, i), v);
                    was = v;
                }
                x.alter(side, i, i);
            }
            firstIs(x, side, 0, 1, 2, 3, 4, 5, 6, 7, 8);
            due("-1", x.alter(side, -1, 5), OUTSIDE);
            due("9", x.alter(side, 9, 5), OUTSIDE);
            firstIs(x, side, 0, 1, 2, 3, 4, 5, 6, 7, 8);
            x.drop(side);
            firstIs(x, side, m);
            x.drop(side);
            due("none", x.alter(side, 0, 5), NOT);
            x.inject(side, 0);
            firstIs(x, side, m);
        }
    }

    private static void dropAnswers() {
        name("promise 19: drop: how many are left, 7 to 0; NOT: there is none");
        for (int side = 0; side < 2; side++) {
            ToyGreeting x = joined();
            due("none", x.drop(side), NOT);
            for (int i = 0; i < 8; i++) {
                x.update(1 - side);
            }
            for (int left = 7; left >= 0; left--) {
                due("drop", x.drop(side), left);
                due("left", x.count(1 + side), left);
            }
            due("none", x.drop(side), NOT);
            due("nothing came", x.side(side, 8 + side), 0);
            due("not counted as gone", x.count(12), 0);
        }
    }

    private static void copyTakes() {
        name("promise 20: copy: to a place 0 to 3: its kind; it stays on the way");
        for (int side = 0; side < 2; side++) {
            ToyGreeting x = joined();
            due("none", x.copy(side, 0), NOT);
            x.update(1 - side);
            int[] kinds = {MIN, -1, 0, MAX};
            for (int place = 0; place < 4; place++) {
                due("nothing there", x.inject(1 - side, place), NOT);
                x.alter(side, 0, kinds[place]);
                due("copy", x.copy(side, place), kinds[place]);
                due("on the way", x.count(1 + side), 1);
            }
            due("-1", x.copy(side, -1), UNKNOWN);
            due("4", x.copy(side, 4), UNKNOWN);
            x.drop(side);
            due("none", x.copy(side, 0), NOT);
            for (int place = 0; place < 4; place++) {
                due("each place has its own", x.inject(1 - side, place), 1);
                due("kind", x.message(1 - side, 0), kinds[place]);
                x.drop(1 - side);
            }
            x.update(1 - side);
            x.copy(side, 3);
            x.drop(side);
            x.inject(side, 3);
            due("another one for the one that was there", x.message(side, 0), UPDATE);
            due("the others stay", x.inject(side, 2), 2);
        }
    }

    private static void injectTakes() {
        name("promise 21: inject: behind all: how many are on the way; the copy stays; NOT: nothing was copied there");
        for (int side = 0; side < 2; side++) {
            ToyGreeting x = joined();
            x.update(side);
            x.copy(1 - side, 1);
            x.drop(1 - side);
            x.say(1 - side, 7);
            for (int place : new int[] {0, 2, 3}) {
                due("place " + place, x.inject(side, place), NOT);
            }
            due("-1", x.inject(side, -1), UNKNOWN);
            due("4", x.inject(side, 4), UNKNOWN);
            for (int i = 2; i <= 8; i++) {
                due("inject", x.inject(side, 1), i);
            }
            due("the first", x.message(side, 0), LETTER);
            x.drop(side);
            for (int i = 7; i > 0; i--) {
                due("behind it", x.message(side, 0), UPDATE);
                x.alter(side, 0, 0);
                x.drop(side);
            }
            due("the copy stays", x.inject(side, 1), 1);
            due("as it was", x.message(side, 0), UPDATE);
        }
    }

    private static void injectFull() {
        name("promise 21: inject: FULL: 8 are");
        for (int side = 0; side < 2; side++) {
            ToyGreeting x = joined();
            x.update(1 - side);
            x.copy(side, 0);
            for (int i = 2; i <= 8; i++) {
                due("inject", x.inject(side, 0), i);
            }
            for (int i = 0; i < 3; i++) {
                due("one more", x.inject(side, 0), FULL);
                due("on the way", x.count(1 + side), 8);
                due("none is gone", x.count(12), 0);
            }
            due("to the other", x.inject(1 - side, 0), 1);
            x.drop(side);
            due("and there is room again", x.inject(side, 0), 8);
        }
    }

    // ---- what there is

    private static void sideOfNotJoined() {
        name("promise 22: side: 3 to 11 are NONE if it is not JOINED; REASON is 0 if it did not fail");
        for (int steps = 0; steps <= 6; steps++) {
            ToyGreeting x = new ToyGreeting();
            for (int i = 0; i < steps; i++) {
                if (i == 0) {
                    x.hello();
                } else {
                    x.step(i % 2 == 1 ? S : C);
                }
            }
            int[] client = {IDLE, ASKED, ASKED, ASKED, ASKED, JOINED, JOINED};
            int[] server = {IDLE, IDLE, RETRIED, RETRIED, GREETED, GREETED, JOINED};
            for (int side = 0; side < 2; side++) {
                int state = side == C ? client[steps] : server[steps];
                due("state", x.side(side, 0), state);
                due("reason", x.side(side, 1), 0);
                due("digest", x.side(side, 2) == 1 ? 1 : 0, state == IDLE ? 1 : 0);
                int[] want = {3, 3, 0, x.side(side, 6), mix(x.side(side, 6), x.side(side, 2)), 0, 0, 0, 0};
                for (int what = 3; what < 12; what++) {
                    due("side(" + side + ", " + what + ")", x.side(side, what), state == JOINED ? want[what - 3] : NONE);
                }
                due("-1", x.side(side, -1), OUTSIDE);
                due("12", x.side(side, 12), OUTSIDE);
            }
        }
    }

    private static void sideOfJoined() {
        name("promise 22: side: VERSION, GROUP, RESUMED, KEY, MAIN, EPOCH and COUNT of ways 0, 1, each by itself");
        for (int version = 1; version <= 3; version++) {
            for (int group = 0; group < 4; group++) {
                ToyGreeting x = new ToyGreeting();
                x.guess(group);
                x.offer(C, (1 << version) - 1, 15);
                x.offer(S, (1 << version) - 1, 1 << group);
                greet(x);
                x.update(C);
                for (int i = 0; i < 2; i++) {
                    x.say(C, i);
                    x.update(S);
                    x.update(S);
                    x.say(S, i);
                }
                int key = mix(7, Model.common(group, x.share(group, 3), 4), 0);
                int[][] lanes = {{0, 1, 0, 3}, {4, 0, 6, 0}};
                for (int side = 0; side < 2; side++) {
                    due("version", x.side(side, 3), version);
                    due("group", x.side(side, 4), group);
                    due("resumed", x.side(side, 5), 0);
                    due("key", x.side(side, 6), key);
                    due("main", x.side(side, 7), mix(key, x.side(side, 2)));
                    for (int i = 0; i < 4; i++) {
                        due("side(" + side + ", " + (8 + i) + ")", x.side(side, 8 + i), lanes[side][i]);
                    }
                }
            }
        }
        ToyGreeting x = withTicket(9);
        int value = x.held(3);
        greet(x);
        for (int side = 0; side < 2; side++) {
            due("resumed", x.side(side, 5), 1);
            due("key", x.side(side, 6), mix(7, Model.common(3, 28, 4), value));
        }
    }

    private static void messageAnswers() {
        name("promise 23: message: number 0 to 8 of the first MESSAGE; NOT: there is none");
        for (int side = 0; side < 2; side++) {
            ToyGreeting x = joined();
            for (int i = 0; i < 9; i++) {
                due("none", x.message(side, i), NOT);
            }
            int sealed = x.say(1 - side, 9);
            x.update(1 - side);
            int lock = mix(x.side(side, 7), side, 0);
            firstIs(x, side, LETTER, sealed, mix(lock, sealed, 0));
            due("-1", x.message(side, -1), OUTSIDE);
            due("9", x.message(side, 9), OUTSIDE);
            x.drop(side);
            firstIs(x, side, UPDATE, mix(lock, -1, 1));
            due("none to the other", x.message(1 - side, 0), NOT);
        }
    }

    private static void keptAnswers() {
        name("promise 24: kept: the k-th TICKET, 0 the oldest, what 0 to 4; UNKNOWN; OUTSIDE");
        ToyGreeting x = joined();
        for (int n = 0; n <= 4; n++) {
            int there = Math.min(n, 3);
            for (int k = -1; k <= 4; k++) {
                boolean is = k >= 0 && k < there;
                due("kept(" + k + ", 0) of " + there, x.kept(k, 0), is ? n - there + k + 1 : UNKNOWN);
                due("kept(" + k + ", 4)", x.kept(k, 4), is ? mix(n - there + k + 1, 77) : UNKNOWN);
                due("kept(" + k + ", 5)", x.kept(k, 5), is ? OUTSIDE : UNKNOWN);
                due("kept(" + k + ", -1)", x.kept(k, -1), is ? OUTSIDE : UNKNOWN);
            }
            x.ticket(9);
        }
        x.fresh(S);
        x.pass(99);
        due("an idle server's, of a life that is over", x.kept(2, 0), 5);
    }

    private static void heldAnswers() {
        name("promise 25: held: what 0 to 4; OUTSIDE; NOT: it has none");
        ToyGreeting x = joined();
        x.pass(9);
        x.ticket(99);
        for (int what = 0; what < 5; what++) {
            due("on the way", x.held(what), NOT);
        }
        x.pass(4);
        x.step(C);
        int[] want = {1, 99, 13, mix(x.side(C, 7), 1), mix(1, 77)};
        for (int i = 0; i < 2; i++) {
            for (int what = 0; what < 5; what++) {
                due("held(" + what + ")", x.held(what), want[what]);
            }
            due("-1", x.held(-1), OUTSIDE);
            due("5", x.held(5), OUTSIDE);
            x.fresh(C);
        }
        x.forget();
        for (int what = 0; what < 5; what++) {
            due("none any more", x.held(what), NOT);
        }
        due("5", x.held(5), OUTSIDE);
    }

    private static void shareTakes() {
        name("promise 26: share: of a SECRET 1 to 999 in a GROUP 0 to 3");
        for (int group = 0; group < 4; group++) {
            ToyGreeting x = new ToyGreeting();
            int want = 1;
            for (int s = 1; s <= 999; s++) {
                want = want * BASE[group] % PRIME[group];
                if (s % 400 == 0) {
                    x = new ToyGreeting();
                }
                due("share(" + group + ", " + s + ")", x.share(group, s), want);
            }
            due("0", x.share(group, 0), OUTSIDE);
            due("1000", x.share(group, 1000), OUTSIDE);
        }
        ToyGreeting x = new ToyGreeting();
        due("group -1", x.share(-1, 1), UNKNOWN);
        due("group 4", x.share(4, 1), UNKNOWN);
    }

    private static void countAnswers() {
        name("promise 27: count: what 0 to 12, each by itself");
        ToyGreeting x = withTicket(99);
        x.early(300);
        countsAre(x, 0, 0, 0, 1, 0, 0, 0, 0, 0, 0, 0, 0, 0);
        x.pass(1);
        again(x);
        countsAre(x, 1, 0, 1, 1, 0, 0, 0, 0, 0, 0, 0, 0, 0);
        x.step(S);
        countsAre(x, 1, 1, 0, 1, 1, 1, 300, 0, 0, 0, 0, 0, 0);
        x.step(C);
        x.step(S);
        x.ticket(1);
        x.step(C);
        countsAre(x, 1, 0, 0, 2, 1, 1, 300, 0, 0, 0, 0, 0, 0);
        x.say(S, 999);
        x.step(C);
        countsAre(x, 1, 0, 0, 2, 1, 1, 300, 1, 0, 999, 0, 0, 0);
        x.say(C, 0);
        x.step(S);
        countsAre(x, 1, 0, 0, 2, 1, 1, 300, 1, 1, 999, 0, 0, 0);
        x.say(C, 5);
        x.step(S);
        x.type('a');
        countsAre(x, 1, 0, 0, 2, 1, 1, 300, 1, 2, 999, 5, 1, 0);
        x.update(C);
        x.step(S);
        countsAre(x, 1, 0, 0, 2, 1, 1, 300, 1, 2, 999, 5, 1, 0);
        for (int i = 0; i < 10; i++) {
            x.say(C, 1);
            x.update(S);
        }
        countsAre(x, 1, 8, 8, 2, 1, 1, 300, 1, 2, 999, 5, 1, 4);
        x.drop(C);
        x.alter(S, 2, 0);
        x.step(S);
        countsAre(x, 1, 7, 7, 2, 1, 1, 300, 1, 2, 999, 5, 1, 4);
    }

    private static void countsAre(ToyGreeting x, int... want) {
        for (int what = 0; what < 13; what++) {
            due("count(" + what + ")", x.count(what), want[what]);
        }
        due("count(-1)", x.count(-1), OUTSIDE);
        due("count(13)", x.count(13), OUTSIDE);
    }
}
