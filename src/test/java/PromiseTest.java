/** For each promise of the document: ordinary inputs, the edges that it names, and wrong inputs. */
final class PromiseTest extends Play {
    public static void main(String[] args) {
        aNewObject();
        type();
        erase();
        faultTokens();
        faultClauses();
        faultCount();
        settings();
        offer();
        secret();
        guess();
        early();
        hello();
        helloTicket();
        step();
        stepRetry();
        stepServerReasons();
        stepClientReasons();
        stepClientOrder();
        stepFinish();
        stepOtherKinds();
        stepTicket();
        stepResumed();
        stepEarly();
        stepEarlyAge();
        stepSeen();
        stepLetters();
        stepUpdates();
        ticket();
        forget();
        say();
        update();
        fresh();
        pass();
        alter();
        drop();
        copy();
        inject();
        side();
        message();
        kept();
        held();
        share();
        count();
        lost();
        end("PromiseTest");
    }

    // ---- helpers

    private static void faultOf(String text, int want) {
        ToyGreeting x = new ToyGreeting();
        write(x, text);
        due("fault() of '" + text + "'", x.fault(), want);
        due("fault() of '" + text + "' once more", x.fault(), want);
        due("the letters of '" + text + "'", x.count(11), text.length());
        if (want != NONE) {
            due("settings() of '" + text + "'", x.settings(), NOT);
            due("the letters of '" + text + "' then", x.count(11), text.length());
        }
    }

    // ---- the promises

    private static void aNewObject() {
        name("promise 1");
        ToyGreeting x = new ToyGreeting();
        for (int side = 0; side < 2; side++) {
            due("state", x.side(side, 0), IDLE);
            due("reason", x.side(side, 1), 0);
            due("digest", x.side(side, 2), 1);
            for (int what = 3; what < 12; what++) {
                due("side(" + side + ", " + what + ")", x.side(side, what), NONE);
            }
            due("message", x.message(side, 0), NOT);
            for (int place = 0; place < 4; place++) {
                due("inject", x.inject(side, place), NOT);
            }
        }
        for (int what = 0; what < 13; what++) {
            due("count(" + what + ")", x.count(what), 0);
        }
        due("held", x.held(0), NOT);
        due("kept", x.kept(0, 0), UNKNOWN);
        due("offer 0", x.offer(0, 7, 15), 7);
        due("offer 1", x.offer(1, 7, 15), 7);
        due("secret 0", x.secret(0, 3), 3);
        due("secret 1", x.secret(1, 4), 4);
        due("guess", x.guess(0), 0);
        due("early", x.early(NONE), NONE);
        due("erase", x.erase(), 0);
        due("hello", x.hello(), 1);
        firstIs(x, S, 1, 7, 15, 0, 10, 0, 0, 0, -1);
        due("NONE", ToyGreeting.NONE, -1);
        due("UNKNOWN", ToyGreeting.UNKNOWN, -2);
        due("OUTSIDE", ToyGreeting.OUTSIDE, -3);
        due("NOT", ToyGreeting.NOT, -4);
        due("FULL", ToyGreeting.FULL, -5);
    }

    private static void type() {
        name("promise 2, type");
        ToyGreeting x = new ToyGreeting();
        for (int letter : new int[] {-1, 256, MIN, MAX}) {
            due("type(" + letter + ")", x.type(letter), OUTSIDE);
        }
        due("letters", x.count(11), 0);
        due("type(0)", x.type(0), 1);
        due("type(255)", x.type(255), 2);
        for (int i = 3; i <= 200; i++) {
            due("type", x.type(' '), i);
        }
        due("the 201st", x.type('a'), FULL);
        due("a wrong 201st", x.type(256), OUTSIDE);
        due("letters", x.count(11), 200);
    }

    private static void erase() {
        name("promise 3, erase");
        ToyGreeting x = new ToyGreeting();
        due("erase of nothing", x.erase(), 0);
        write(x, "guess 1");
        due("erase", x.erase(), 7);
        due("letters", x.count(11), 0);
        due("erase again", x.erase(), 0);
        due("type", x.type('g'), 1);
        x.erase();
        write(x, " ".repeat(200));
        due("erase of 200", x.erase(), 200);
        due("type", x.type('g'), 1);
    }

    private static void faultTokens() {
        name("promise 4, fault: tokens");
        faultOf("", 0);
        faultOf("   ", 3);
        faultOf("guess 0", NONE);
        faultOf("guess0", NONE);
        faultOf("  guess   0  ", NONE);
        faultOf("guess", 5);
        faultOf("guess  ", 7);
        faultOf(" guess", 6);
        faultOf("gues 0", 0);
        faultOf("guesss 0", 0);
        faultOf("Guess 0", 0);
        faultOf("guesS 0", 0);
        faultOf("gu ess 0", 0);
        faultOf("0", 0);
        faultOf(";", 0);
        faultOf(" ;", 1);
        faultOf("`", 0);
        faultOf("{", 0);
        faultOf("guess /", 6);
        faultOf("guess :", 6);
        faultOf("guess\t0", 5);
        faultOf("guess\n0", 5);
        faultOf("guess\u00a00", 5);
        faultOf("guess 0\t", 7);
        faultOf("guess 0 \u0000", 8);
        faultOf("guess a", 6);
        faultOf("guess 0a", 7);
        faultOf("guess a0", 6);
        faultOf("guess 0 0", 8);
        faultOf("guess 0 guess 1", 8);
        faultOf("guess 0.", 7);
        faultOf("guess -1", 6);
        faultOf("guess +1", 6);
        faultOf("guess 0;", 8);
        faultOf("guess 0; ", 9);
        faultOf("guess 0;;guess 1", 8);
        faultOf("guess 0;guess 1", NONE);
        faultOf("guess0;guess1;early2", NONE);
        faultOf("guess 0 ; guess 1", NONE);
        faultOf("guess 0,guess 1", 7);
        faultOf("guessearly 0", 0);
        faultOf("x guess 0", 0);
        faultOf("xuess 0", 0);
        faultOf("zlient 1 1", 0);
        faultOf("guessz 0", 0);
        faultOf("guessa 0", 0);
        faultOf("guess 0;x", 8);
        faultOf("\u00e9", 0);
    }

    private static void faultClauses() {
        name("promise 4, fault: clauses");
        for (String word : new String[] {"client", "server"}) {
            faultOf(word + " 1 1", NONE);
            faultOf(word + "1 1", NONE);
            faultOf(word + " 7 15", NONE);
            faultOf(word + " 007 015", NONE);
            faultOf(word + " 0 1", 7);
            faultOf(word + " 8 1", 7);
            faultOf(word + " 1 0", 9);
            faultOf(word + " 1 16", 9);
            faultOf(word + " 11", 7);
            faultOf(word + " 1", 8);
            faultOf(word + " 1 ", 9);
            faultOf(word + " 1;", 8);
            faultOf(word + ";", 6);
            faultOf(word, 6);
            faultOf(word + " 0007 1", 7);
            faultOf(word + " 7 0015", 9);
            faultOf(word + " 7 15 1", 12);
            faultOf(word + " 7 1 client", 11);
        }
        faultOf("secret 0 1", NONE);
        faultOf("secret 1 999", NONE);
        faultOf("secret 000 001", NONE);
        faultOf("secret 2 1", 7);
        faultOf("secret 0 0", 9);
        faultOf("secret 0 000", 9);
        faultOf("secret 0 1000", 9);
        faultOf("secret 0", 8);
        faultOf("guess 3", NONE);
        faultOf("guess 003", NONE);
        faultOf("guess 4", 6);
        faultOf("guess 0003", 6);
        faultOf("early 0", NONE);
        faultOf("early 000", NONE);
        faultOf("early 999", NONE);
        faultOf("early 1000", 6);
        faultOf("early 0000", 6);
        faultOf("early 99999999999999999999", 6);
        faultOf("early 4294967297", 6);
        faultOf("early 1 1", 8);
        faultOf("secret 1 5;client 7 16;x", 20);
    }

    private static void faultCount() {
        name("promise 4, fault: how many clauses");
        String row = "guess0" + ";guess1".repeat(23);
        faultOf(row.substring(7), NONE);
        faultOf(row, NONE);
        faultOf(row + " ", NONE);
        faultOf(row + ";", row.length());
        faultOf(row + " ; ", row.length() + 1);
        faultOf(row + ";guess1", row.length());
        faultOf(row + "x", row.length());
        faultOf("x" + row, 0);
        String full = "guess0" + " ".repeat(194);
        faultOf(full, NONE);
        faultOf("guess" + " ".repeat(195), 200);
        faultOf(" ".repeat(194) + "guess0", NONE);
        faultOf(" ".repeat(195) + "guess", 200);
        ToyGreeting x = new ToyGreeting();
        write(x, "guess 0");
        x.erase();
        due("fault() of an erased text", x.fault(), 0);
        write(x, "early");
        due("what stood behind is no more", x.fault(), 5);
    }

    private static void settings() {
        name("promise 5, settings");
        ToyGreeting x = new ToyGreeting();
        due("of no letters", x.settings(), NOT);
        write(x, "client 3 5; server 6 10;secret 0 77;secret 1 88;guess 2;early 345");
        due("fault()", x.fault(), NONE);
        due("fault() does nothing", x.early(NONE), NONE);
        due("settings()", x.settings(), 6);
        due("letters", x.count(11), 0);
        due("once more", x.settings(), NOT);
        due("guess", x.guess(2), 2);
        due("early", x.early(345), 345);
        due("secret 0", x.secret(0, 77), 77);
        due("secret 1", x.secret(1, 88), 88);
        x.hello();
        due("client's versions", x.message(S, 1), 3);
        due("client's groups", x.message(S, 2), 5);
        due("client's share", x.message(S, 4), Model.share(2, 77));
        due("server's versions", x.offer(S, 6, 15), 6);
        write(x, "guess 1;guess 3;early 1;early 0;client 1 1;client 7 8");
        due("in their order", x.settings(), 6);
        due("the last guess", x.guess(0), 3);
        due("the last early", x.early(NONE), 0);
        due("the last versions", x.offer(C, 7, 15), 7);
        write(x, "guess 1;guess 4");
        due("a fault behind", x.settings(), NOT);
        due("nothing is done", x.guess(0), 0);
        due("the text stays", x.count(11), 15);
        x.erase();
        write(x, "early 9" + ";guess3".repeat(23));
        due("24 clauses", x.settings(), 24);
        due("the first of them", x.early(NONE), 9);
        due("the last of them", x.guess(0), 3);
        write(x, "server 7 4");
        due("settings()", x.settings(), 1);
        x.offer(C, 7, 15);
        x.fresh(C);
        x.drop(S);
        x.hello();
        x.step(S);
        due("server's groups", x.message(C, 1), 2);
    }

    private static void offer() {
        name("promise 6, offer");
        ToyGreeting x = new ToyGreeting();
        for (int side : new int[] {-1, 2, MIN, MAX}) {
            due("offer to " + side, x.offer(side, 1, 1), UNKNOWN);
            due("offer to " + side + ", all wrong", x.offer(side, 0, 0), UNKNOWN);
        }
        for (int side = 0; side < 2; side++) {
            for (int versions : new int[] {0, 8, -1, MIN, MAX}) {
                due("versions " + versions, x.offer(side, versions, 1), OUTSIDE);
            }
            for (int groups : new int[] {0, 16, -1, MIN, MAX}) {
                due("groups " + groups, x.offer(side, 1, groups), OUTSIDE);
            }
            due("nothing changed", x.offer(side, 1, 15), 7);
            due("the least", x.offer(side, 2, 1), 1);
            due("once more", x.offer(side, 7, 15), 2);
            due("not the other's", x.offer(1 - side, 7, 15), 7);
        }
        x.offer(C, 5, 6);
        x.hello();
        due("versions told", x.message(S, 1), 5);
        due("groups told", x.message(S, 2), 6);
        x.offer(S, 3, 2);
        x.step(S);
        due("greeting's group", x.message(C, 2), 1);
        due("greeting's version", x.message(C, 1), 1);
        due("greeting's mark", x.message(C, 4), 1);
    }

    private static void secret() {
        name("promise 7, secret");
        ToyGreeting x = new ToyGreeting();
        for (int side : new int[] {-1, 2, MIN, MAX}) {
            due("of " + side, x.secret(side, 1), UNKNOWN);
            due("of " + side + ", all wrong", x.secret(side, 0), UNKNOWN);
        }
        for (int s : new int[] {0, 1000, -1, MIN, MAX}) {
            due("client's " + s, x.secret(C, s), OUTSIDE);
            due("server's " + s, x.secret(S, s), OUTSIDE);
        }
        due("client's", x.secret(C, 1), 3);
        due("server's", x.secret(S, 999), 4);
        due("client's then", x.secret(C, 20), 1);
        due("server's then", x.secret(S, 30), 999);
        x.guess(3);
        x.hello();
        due("client's share", x.message(S, 4), Model.share(3, 20));
        x.step(S);
        due("server's share", x.message(C, 3), Model.share(3, 30));
        x.step(C);
        x.step(S);
        int common = Model.common(3, Model.share(3, 20), 30);
        due("client's key", x.side(C, 6), mix(7, common, 0));
        due("server's key", x.side(S, 6), mix(7, common, 0));
        x.fresh(C);
        x.fresh(S);
        x.hello();
        x.step(S);
        x.secret(C, 21);
        x.step(C);
        due("the secret is that of the time when the greeting comes", x.side(C, 1), 8);
    }

    private static void guess() {
        name("promise 8, guess");
        ToyGreeting x = new ToyGreeting();
        for (int group : new int[] {-1, 4, MIN, MAX}) {
            due("guess(" + group + ")", x.guess(group), OUTSIDE);
        }
        due("guess(1)", x.guess(1), 0);
        due("guess(3)", x.guess(3), 1);
        due("guess(2)", x.guess(2), 3);
        x.hello();
        due("the group told", x.message(S, 3), 2);
        x.fresh(C);
        x.drop(S);
        x.offer(C, 7, 10);
        x.hello();
        due("a guess that is not of the groups", x.message(S, 3), 1);
        due("the guess stays", x.guess(3), 2);
        int[][] rows = {{1, 1, 0}, {1, 5, 0}, {0, 6, 1}, {0, 12, 2}, {0, 8, 3}, {3, 15, 3}, {3, 8, 3}};
        for (int[] row : rows) {
            x.fresh(C);
            x.drop(S);
            x.guess(row[0]);
            x.offer(C, 7, row[1]);
            x.hello();
            due("guess " + row[0] + " of groups " + row[1], x.message(S, 3), row[2]);
            due("its share", x.message(S, 4), Model.share(row[2], 3));
        }
    }

    private static void early() {
        name("promise 9, early");
        ToyGreeting x = new ToyGreeting();
        for (int v : new int[] {-2, 1000, MIN, MAX}) {
            due("early(" + v + ")", x.early(v), OUTSIDE);
        }
        due("early(0)", x.early(0), NONE);
        due("early(999)", x.early(999), 0);
        due("early(NONE)", x.early(NONE), 999);
        due("early(5)", x.early(5), NONE);
        x.hello();
        due("none is told without a ticket", x.message(S, 8), -1);
        ToyGreeting y = withTicket(5);
        again(y);
        due("none", y.message(S, 8), -1);
        y.early(0);
        due("what is on the way stays", y.message(S, 8), -1);
        y.drop(S);
        again(y);
        due("told with a ticket", y.message(S, 8), 0);
        y.step(S);
        due("taken", y.count(5), 1);
        due("it stays", y.early(NONE), 0);
    }

    private static void hello() {
        name("promise 10, hello");
        ToyGreeting x = new ToyGreeting();
        x.offer(C, 6, 12);
        x.secret(C, 100);
        due("hello()", x.hello(), 1);
        int[] m = {1, 6, 12, 2, Model.share(2, 100), 0, 0, 0, -1};
        firstIs(x, S, m);
        due("asked", x.side(C, 0), ASKED);
        due("digest", x.side(C, 2), mix(1, m));
        due("asked already", x.hello(), NOT);
        due("on the way", x.count(2), 1);
        for (int i = 2; i <= 8; i++) {
            x.fresh(C);
            due("hello()", x.hello(), i);
        }
        x.fresh(C);
        due("one more is gone", x.hello(), 8);
        due("it is asked all the same", x.side(C, 0), ASKED);
        due("gone", x.count(12), 1);
        ToyGreeting y = joined();
        due("joined", y.hello(), NOT);
        y.alter(C, 0, 0);
        y.say(S, 1);
        y.alter(C, 2, 0);
        y.step(C);
        due("failed", y.hello(), NOT);
        due("on the way", y.count(2), 0);
    }

    private static void helloTicket() {
        name("promise 10, hello with a ticket");
        ToyGreeting x = joined();
        x.pass(7);
        x.ticket(9);
        x.pass(2);
        x.step(C);
        x.early(33);
        x.pass(4);
        int value = mix(x.side(C, 7), 1);
        again(x);
        int age = 4 + mix(1, 77);
        int[] m = {1, 7, 15, 3, 28, 1, age, 0, 33};
        m[7] = mix(value, 1, 1, 7, 15, 3, 28, 1, age);
        firstIs(x, S, m);
        due("digest", x.side(C, 2), mix(1, m));
        x.drop(S);
        x.forget();
        again(x);
        firstIs(x, S, 1, 7, 15, 3, 28, 0, 0, 0, -1);
        ToyGreeting y = withTicket(9);
        y.early(44);
        y.guess(1);
        value = mix(y.side(C, 7), 1);
        again(y);
        due("early first", y.message(S, 8), 44);
        y.step(S);
        y.pass(1);
        y.step(C);
        int digest = y.side(C, 2);
        int[] n = first(y, S);
        due("no early behind a retry", n[8], -1);
        due("the age", n[6], 1 + mix(1, 77));
        int[] first = {1, 7, 15, 1, Model.share(1, 3), 1, mix(1, 77), 0, 44};
        first[7] = Model.binder(value, 1, first);
        int asked = mix(mix(1, first), 2, 3, 0, 0, 0, 0, 0, 0, 0);
        due("the binder", n[7], Model.binder(value, asked, n));
        due("digest", digest, mix(asked, n));
        y.drop(S);
        y.guess(3);
        again(y);
        due("early again, for no retry came", y.message(S, 8), 44);
    }

    private static void step() {
        name("promise 11, step");
        ToyGreeting x = new ToyGreeting();
        for (int side : new int[] {-1, 2, MIN, MAX}) {
            due("step(" + side + ")", x.step(side), UNKNOWN);
        }
        due("none", x.step(C), NOT);
        due("none", x.step(S), NOT);
        x.guess(3);
        x.hello();
        int[] m = first(x, S);
        due("step(1)", x.step(S), 1);
        due("not on the way any more", x.count(2), 0);
        due("greeted", x.side(S, 0), GREETED);
        int key = mix(7, Model.common(3, 28, 4), 0);
        int[] g = {3, 3, 3, Model.share(3, 4), 0, 0, 0};
        int digest = mix(mix(1, m), g);
        firstIs(x, C, 3, 3, 3, Model.share(3, 4), 0, 0, 0, mix(key, digest, 1));
        due("server's digest", x.side(S, 2), digest);
        due("step(0)", x.step(C), 3);
        due("client's digest", x.side(C, 2), digest);
        firstIs(x, S, 4, mix(key, digest, 2));
        due("step(1)", x.step(S), 4);
        for (int side = 0; side < 2; side++) {
            int[] want = {JOINED, 0, digest, 3, 3, 0, key, mix(key, digest), 0, 0, 0, 0};
            for (int what = 0; what < 12; what++) {
                due("side(" + side + ", " + what + ")", x.side(side, what), want[what]);
            }
        }
        x.update(C);
        x.say(C, 1);
        due("the first that was sent comes first", x.step(S), 7);
        due("then the other one", x.step(S), 6);
        x.say(C, 1);
        x.alter(S, 0, -77);
        due("the kind that somebody made of it", x.step(S), -77);
        failed(x, S, 1);
    }

    private static void stepRetry() {
        name("promise 11, step: retry");
        ToyGreeting x = new ToyGreeting();
        x.hello();
        int[] m = first(x, S);
        x.step(S);
        due("retried", x.side(S, 0), RETRIED);
        firstIs(x, C, 2, 3);
        int digest = mix(mix(1, m), 2, 3, 0, 0, 0, 0, 0, 0, 0);
        due("server's digest", x.side(S, 2), digest);
        x.offer(C, 6, 14);
        x.secret(C, 9);
        x.step(C);
        due("asked", x.side(C, 0), ASKED);
        int[] n = {1, 6, 14, 3, Model.share(3, 9), 0, 0, 0, -1};
        firstIs(x, S, n);
        due("client's digest", x.side(C, 2), mix(digest, n));
        x.inject(C, 0);
        x.step(S);
        due("greeted", x.side(S, 0), GREETED);
        x.step(C);
        x.step(S);
        due("joined", x.side(S, 0), JOINED);
        due("client's main is the server's", x.side(C, 7), x.side(S, 7));

        ToyGreeting y = new ToyGreeting();
        for (int group : new int[] {0, 4, -1, 31, 32, 33, 35, MIN, MAX}) {
            greetToRetry(y);
            y.alter(C, 1, group);
            y.step(C);
            failed(y, C, 4);
            due("no hello", y.count(2), 0);
        }
        greetToRetry(y);
        y.offer(C, 7, 7);
        y.step(C);
        failed(y, C, 4);
        y.offer(C, 7, 15);
        greetToRetry(y);
        y.copy(C, 0);
        y.step(C);
        y.inject(C, 0);
        y.alter(C, 1, 2);
        y.step(C);
        failed(y, C, 4);
        y.drop(S);
        greetToRetry(y);
        y.step(C);
        due("a retry of an earlier greeting counts no more", y.side(C, 0), ASKED);
        y.alter(S, 3, 0);
        y.step(S);
        failed(y, S, 4);
        due("no second retry", y.count(1), 0);
        greetToRetry(y);
        y.alter(C, 8, 5);
        y.step(C);
        y.step(S);
        y.step(C);
        failed(y, C, 8);
    }

    private static void greetToRetry(ToyGreeting x) {
        x.fresh(C);
        x.fresh(S);
        x.hello();
        x.step(S);
        due("a retry", x.message(C, 0), 2);
    }

    private static void stepServerReasons() {
        name("promise 11, step: the server's reasons");
        ToyGreeting x = new ToyGreeting();
        x.guess(3);
        int[][] rows = { // number, value, reason; 0: no fault
            {1, 0, 2}, {1, 8, 2}, {1, -8, 2}, {1, MIN, 2}, {1, -1, 0}, {1, 9, 0},
            {2, 0, 3}, {2, 16, 3}, {2, -16, 3}, {2, MIN, 3}, {2, -1, 0}, {2, 24, 0},
            {4, 0, 5}, {4, 97, 5}, {4, -1, 5}, {4, MIN, 5}, {4, MAX, 5}, {4, 1, 0}, {4, 96, 0}};
        for (int[] row : rows) {
            x.fresh(C);
            x.fresh(S);
            x.hello();
            x.alter(S, row[0], row[1]);
            x.step(S);
            if (row[2] == 0) {
                due("greeted with " + row[0] + " " + row[1], x.side(S, 0), GREETED);
                due("a greeting", x.drop(C), 0);
            } else {
                failed(x, S, row[2]);
                due("digest", x.side(S, 2), 1);
                due("no greeting", x.count(1), 0);
            }
        }
        serverOrder(x, 1, 0, 2, 0, 2);
        serverOrder(x, 2, 0, 4, 0, 3);
        serverOrder(x, 3, 2, 4, 0, 0);
        for (int group = 0; group < 4; group++) {
            int prime = new int[] {23, 47, 59, 97}[group];
            shareOfGroup(group, prime - 1, GREETED);
            shareOfGroup(group, prime, FAILED);
        }
        int[][] both = {{1, 7, 1, 1}, {3, 7, 2, 1}, {7, 3, 2, 0}, {5, 7, 3, 0}, {5, 3, 1, 1}, {6, 3, 2, 0},
            {5, 2, 0, 0}, {4, 3, 0, 0}, {7, 5, 3, 0}, {3, 5, 1, 1}};
        for (int[] row : both) {
            ToyGreeting y = new ToyGreeting();
            y.guess(3);
            y.offer(C, row[0], 15);
            y.offer(S, row[1], 15);
            y.hello();
            y.step(S);
            if (row[2] == 0) {
                failed(y, S, 2);
            } else {
                due("version of " + row[0] + " and " + row[1], y.message(C, 1), row[2]);
                due("mark of " + row[0] + " and " + row[1], y.message(C, 4), row[3]);
            }
        }
    }

    private static void serverOrder(ToyGreeting x, int i, int v, int j, int w, int reason) {
        x.fresh(C);
        x.fresh(S);
        x.hello();
        x.alter(S, i, v);
        x.alter(S, j, w);
        x.step(S);
        due("the reason that is told first", x.side(S, 1), reason);
        if (reason == 0) {
            due("a retry ahead of a look at the share", x.message(C, 0), 2);
            x.drop(C);
        }
    }

    private static void shareOfGroup(int group, int share, int state) {
        ToyGreeting x = new ToyGreeting();
        x.offer(C, 7, 1 << group);
        x.hello();
        due("the group", x.message(S, 3), group);
        x.alter(S, 4, share);
        x.step(S);
        due("share " + share + " in group " + group, x.side(S, 0), state);
        due("reason", x.side(S, 1), state == FAILED ? 5 : 0);
    }

    private static void clientFails(int i, int v, int reason) {
        ToyGreeting x = greeting(7);
        int digest = x.side(C, 2);
        x.alter(C, i, v);
        x.step(C);
        failed(x, C, reason);
        due("no finish", x.count(2), 0);
        if (reason != 8) {
            due("digest", x.side(C, 2), digest);
        }
    }

    private static void stepClientReasons() {
        name("promise 11, step: the client's reasons");
        for (int version : new int[] {0, 4, -1, 33, MIN, MAX}) {
            clientFails(1, version, 2);
        }
        clientFails(1, 2, 8);
        for (int group : new int[] {0, 1, 2, 4, -1, MIN, MAX}) {
            clientFails(2, group, 4);
        }
        for (int share : new int[] {0, 97, -1, MIN, MAX}) {
            clientFails(3, share, 5);
        }
        clientFails(3, 96, 8);
        clientFails(3, 1, 8);
        clientFails(4, 1, 8);
        for (int resumed : new int[] {1, -1, 2, MIN}) {
            clientFails(5, resumed, 6);
        }
        clientFails(6, 1, 8);
        clientFails(7, 0, 8);
        ToyGreeting x = greeting(7);
        x.alter(C, 8, 5);
        x.step(C);
        due("number 8 of a greeting is not looked at", x.side(C, 0), JOINED);
        ToyGreeting y = greeting(7);
        y.offer(C, 3, 15);
        y.step(C);
        failed(y, C, 2);
        for (int above = 1; above < 8; above++) {
            ToyGreeting z = greeting(7);
            z.offer(C, above, 15);
            z.alter(C, 4, -9);
            int version = 32 - Integer.numberOfLeadingZeros(Integer.lowestOneBit(above));
            z.alter(C, 1, version);
            z.step(C);
            failed(z, C, Integer.bitCount(above) > 1 ? 7 : 8);
        }
        ToyGreeting stripped = new ToyGreeting();
        stripped.guess(3);
        stripped.hello();
        stripped.alter(S, 1, 3);
        stripped.step(S);
        due("the version that is left", stripped.message(C, 1), 2);
        due("the mark", stripped.message(C, 4), 1);
        stripped.step(C);
        failed(stripped, C, 7);
        ToyGreeting old = new ToyGreeting();
        old.offer(C, 3, 15);
        old.guess(3);
        greet(old);
        due("a mark to a client that has no version above", old.side(C, 3), 2);
        ToyGreeting changed = greeting(7);
        changed.offer(C, 7, 1);
        changed.guess(0);
        changed.step(C);
        due("the group is that of the last hello", changed.side(C, 4), 3);
    }

    private static void clientOrder(int i, int v, int j, int w, int reason) {
        ToyGreeting x = greeting(7);
        x.alter(C, 7, 0);
        x.alter(C, i, v);
        x.alter(C, j, w);
        x.step(C);
        failed(x, C, reason);
    }

    private static void stepClientOrder() {
        name("promise 11, step: the order of the client's reasons");
        clientOrder(1, 4, 2, 0, 2);
        clientOrder(2, 0, 3, 0, 4);
        clientOrder(3, 0, 5, 1, 5);
        clientOrder(5, 1, 6, 1, 6);
        ToyGreeting x = greeting(7);
        x.alter(C, 1, 2);
        x.alter(C, 4, 1);
        x.copy(C, 0);
        x.alter(C, 3, 0);
        x.alter(C, 5, 1);
        x.step(C);
        failed(x, C, 7);
        ToyGreeting y = greeting(7);
        y.alter(C, 1, 2);
        y.alter(C, 4, 1);
        y.alter(C, 2, 2);
        y.step(C);
        failed(y, C, 4);
    }

    private static void stepFinish() {
        name("promise 11, step: finish");
        ToyGreeting x = greeting(7);
        x.step(C);
        x.alter(S, 1, 0);
        x.step(S);
        failed(x, S, 8);
        ToyGreeting y = greeting(7);
        y.step(C);
        for (int i = 2; i < 9; i++) {
            y.alter(S, i, 9);
        }
        int digest = y.side(S, 2);
        y.step(S);
        due("the rest of a finish is not looked at", y.side(S, 0), JOINED);
        due("a finish is not taken in", y.side(S, 2), digest);
        ToyGreeting z = greeting(7);
        z.copy(C, 0);
        z.step(C);
        z.copy(S, 1);
        z.step(S);
        z.inject(S, 1);
        z.step(S);
        failed(z, S, 1);
        z.inject(C, 0);
        z.step(C);
        failed(z, C, 1);
    }

    private static void stepOtherKinds() {
        name("promise 11, step: whatever else comes");
        int[] kinds = {0, 1, 2, 3, 4, 5, 6, 7, 8, -1, MIN, MAX};
        for (int kind : kinds) {
            for (int side = 0; side < 2; side++) {
                ToyGreeting x = joined();
                x.say(1 - side, 3);
                x.alter(side, 0, kind);
                x.copy(side, 0);
                x.drop(side);
                if (!(side == C && kind == 5) && kind != 6 && kind != 7) {
                    comes(x, side, 1);
                }
                x.fresh(side);
                if (side == S && kind == 1) {
                    continue;
                }
                comes(x, side, 1);
                due("digest", x.side(side, 2), 1);
                x.inject(side, 0);
                due("to a failed one it comes too", x.step(side), kind);
                failed(x, side, 1);
            }
            ToyGreeting asked = askedWithCopy(kind);
            if (kind != 2 && kind != 3) {
                comes(asked, C, 1);
            }
            ToyGreeting greeted = greeting(7);
            greeted.copy(C, 0);
            greeted.inject(S, 0);
            greeted.alter(S, 0, kind);
            greeted.step(S);
            failed(greeted, S, kind == 4 ? 8 : 1);
        }
        ToyGreeting x = new ToyGreeting();
        x.guess(3);
        x.hello();
        x.copy(S, 0);
        x.alter(S, 1, 0);
        x.step(S);
        failed(x, S, 2);
        x.inject(S, 0);
        x.step(S);
        failed(x, S, 2);
        due("no greeting of a failed one", x.count(1), 0);
    }

    /** An asked client, and a message of a kind in place 0. */
    private static ToyGreeting askedWithCopy(int kind) {
        ToyGreeting x = new ToyGreeting();
        x.hello();
        x.alter(S, 0, kind);
        x.copy(S, 0);
        x.drop(S);
        return x;
    }

    private static void comes(ToyGreeting x, int side, int reason) {
        x.inject(side, 0);
        x.step(side);
        due("state", x.side(side, 0), FAILED);
        due("reason", x.side(side, 1), reason);
    }

    private static void stepTicket() {
        name("promise 11, step: ticket");
        ToyGreeting x = joined();
        x.ticket(5);
        x.pass(3);
        x.alter(C, 1, 40);
        x.alter(C, 2, 41);
        x.alter(C, 3, -42);
        int digest = x.side(C, 2);
        due("step", x.step(C), 5);
        int[] want = {40, -42, 3, mix(x.side(C, 7), 40), 41};
        for (int what = 0; what < 5; what++) {
            due("held(" + what + ")", x.held(what), want[what]);
        }
        due("a ticket is not taken in", x.side(C, 2), digest);
        due("joined still", x.side(C, 0), JOINED);
        x.pass(1);
        x.ticket(6);
        x.step(C);
        due("one for the one that it had", x.held(0), 2);
        due("came", x.held(2), 4);
        x.ticket(6);
        x.alter(C, 1, 0);
        x.step(C);
        due("a ticket of number 0", x.held(0), 0);
        x.early(5);
        x.fresh(C);
        x.hello();
        due("number", x.message(S, 5), 0);
        due("age", x.message(S, 6), mix(3, 77));
        due("early", x.message(S, 8), 5);
        due("binder", x.message(S, 7), Model.binder(mix(x.side(S, 7), 0), 1, first(x, S)));
        x.fresh(S);
        x.step(S);
        due("not resumed", x.message(C, 5), 0);
        x.step(C);
        due("joined", x.side(C, 0), JOINED);
        due("forget", x.forget(), 0);
    }

    private static void stepResumed() {
        name("promise 11, step: resumed");
        ToyGreeting x = withTicket(4);
        int value = x.held(3);
        x.pass(4);
        greet(x);
        int key = mix(7, Model.common(3, 28, 4), value);
        for (int side = 0; side < 2; side++) {
            due("resumed", x.side(side, 5), 1);
            due("key", x.side(side, 6), key);
        }
        x.pass(1);
        greet(x);
        due("the life is over", x.side(C, 5), 0);
        due("key", x.side(C, 6), mix(7, Model.common(3, 28, 4), 0));

        ToyGreeting late = joined();
        late.pass(50);
        late.ticket(6);
        late.step(C);
        late.early(20);
        late.pass(6);
        greet(late);
        due("the life begins when the ticket is made", late.side(S, 5), 1);
        due("and so does its age", late.count(5), 1);
        late.pass(1);
        greet(late);
        due("the life is over", late.side(S, 5), 0);
        ToyGreeting y = withTicket(0);
        greet(y);
        due("a life of 0 at once", y.side(S, 5), 1);
        y.offer(S, 3, 15);
        greet(y);
        due("of version 2", y.side(S, 5), 0);
        y.offer(S, 7, 15);
        y.offer(C, 3, 15);
        greet(y);
        due("of version 2", y.side(C, 5), 0);
        y.offer(C, 7, 15);
        int[][] rows = {{1, 16}, {2, 16}, {4, 1}, {6, 1}, {7, 1}};
        for (int[] row : rows) {
            again(y);
            y.alter(S, row[0], y.message(S, row[0]) + row[1]);
            y.step(S);
            failed(y, S, 6);
            due("digest", y.side(S, 2), 1);
            due("no greeting", y.count(1), 0);
        }
        again(y);
        y.alter(S, 5, 9);
        y.step(S);
        due("no such ticket", y.message(C, 5), 0);
        y.step(C);
        failed(y, C, 8);
        y.guess(1);
        again(y);
        y.step(S);
        y.step(C);
        y.step(S);
        due("resumed behind a retry", y.message(C, 5), 1);
        y.forget();
        y.step(C);
        due("the ticket is that of the last hello", y.side(C, 0), JOINED);
        due("resumed", y.side(C, 5), 1);
        forgedResumed();
    }

    /** Somebody who knows the keys says RESUMED with another number than 1. */
    private static void forgedResumed() {
        ToyGreeting x = withTicket(9);
        int value = x.held(3);
        again(x);
        int asked = x.side(C, 2);
        x.step(S);
        x.alter(C, 5, -8);
        int[] m = java.util.Arrays.copyOf(first(x, C), 7);
        int key = mix(7, Model.common(3, 28, 4), value);
        x.alter(C, 7, mix(key, mix(asked, m), 1));
        x.step(C);
        due("joined", x.side(C, 0), JOINED);
        due("1 RESUMED", x.side(C, 5), 1);
        due("key", x.side(C, 6), key);
        x.step(S);
        failed(x, S, 8);
    }

    private static void stepEarly() {
        name("promise 11, step: early");
        ToyGreeting x = withTicket(9);
        x.early(700);
        again(x);
        x.copy(S, 0);
        x.step(S);
        due("resumed", x.message(C, 5), 1);
        due("taken", x.message(C, 6), 1);
        x.step(C);
        x.step(S);
        due("joined", x.side(S, 0), JOINED);
        due("early letters", x.count(5), 1);
        due("what they told", x.count(6), 700);
        due("seen", x.count(4), 1);
        x.fresh(S);
        x.inject(S, 0);
        x.step(S);
        due("the same once more", x.message(C, 6), 0);
        due("resumed all the same", x.message(C, 5), 1);
        due("early letters", x.count(5), 1);
        x.drop(C);
        x.early(0);
        x.secret(C, 5);
        again(x);
        x.step(S);
        due("another binder", x.message(C, 6), 1);
        due("early letters", x.count(5), 2);
        due("a 0 told", x.count(6), 700);
        due("seen", x.count(4), 2);
        x.drop(C);
        x.secret(C, 6);
        x.early(NONE);
        again(x);
        x.step(S);
        due("none", x.message(C, 6), 0);
        due("seen", x.count(4), 2);
        x.drop(C);
        again(x);
        x.alter(S, 8, 50000);
        x.step(S);
        due("one that somebody told", x.message(C, 6), 1);
        due("what they told", x.count(6), 50700);
        x.step(C);
        failed(x, C, 8);
        again(x);
        x.alter(S, 8, -2);
        x.step(S);
        due("less than none", x.message(C, 6), 0);
        x.drop(C);
        x.early(8);
        x.guess(0);
        again(x);
        x.step(S);
        x.step(C);
        x.alter(S, 8, 8);
        x.step(S);
        due("behind a retry none is taken", x.message(C, 6), 0);
        due("resumed", x.message(C, 5), 1);
        due("early letters", x.count(5), 3);
    }

    private static void stepEarlyAge() {
        name("promise 11, step: the age of early letters");
        int[][] rows = { // before the ticket comes, before the hello, before that comes, whether it is taken
            {0, 0, 2, 1}, {0, 0, 3, 0}, {2, 0, 0, 1}, {3, 0, 0, 0}, {1, 5, 1, 1}, {1, 5, 2, 0}, {0, 50, 0, 1}};
        for (int[] row : rows) {
            ToyGreeting x = joined();
            x.ticket(99);
            wait(x, row[0]);
            x.step(C);
            wait(x, row[1]);
            x.early(1);
            again(x);
            wait(x, row[2]);
            x.step(S);
            due("resumed", x.message(C, 5), 1);
            due("taken of an age that is off by " + (row[0] + row[2]), x.message(C, 6), row[3]);
        }
        int[][] told = {{-2, 1}, {-3, 0}, {2, 1}, {3, 0}, {MIN, 0}, {MAX, 0}};
        for (int[] row : told) {
            ToyGreeting x = withTicket(99);
            x.early(1);
            again(x);
            x.alter(S, 6, x.message(S, 6) + row[0]);
            x.alter(S, 7, Model.binder(x.held(3), 1, first(x, S)));
            x.step(S);
            due("resumed", x.message(C, 5), 1);
            due("taken of an age that is " + row[0] + " more", x.message(C, 6), row[1]);
        }
    }

    private static void wait(ToyGreeting x, int n) {
        due("pass", n > 0 ? x.pass(n) : x.count(0), x.count(0));
    }

    private static void stepSeen() {
        name("promise 11, step: seen");
        ToyGreeting x = withTicket(99);
        x.early(10);
        for (int i = 0; i < 5; i++) {
            x.secret(C, 100 + i);
            again(x);
            if (i == 0 || i == 1 || i == 4) {
                x.copy(S, i == 4 ? 2 : i);
            }
            x.step(S);
            due("taken", x.drop(C), 0);
            due("early letters", x.count(5), i + 1);
            due("seen", x.count(4), Math.min(4, i + 1));
        }
        replayed(x, 1, 5);
        replayed(x, 2, 5);
        replayed(x, 0, 6);
        due("seen", x.count(4), 4);
        replayed(x, 0, 6);
        replayed(x, 2, 6);
        replayed(x, 1, 7);
        due("told", x.count(6), 70);
        seenOfTickets();
        ToyGreeting y = withTicket(99);
        y.early(10);
        again(y);
        y.step(S);
        y.step(C);
        y.step(S);
        y.fresh(C);
        y.fresh(S);
        due("seen stays", y.count(4), 1);
        y.drop(C);
        y.hello();
        y.step(S);
        due("the same binder of the same ticket", y.message(C, 6), 0);
    }

    /** The number of a ticket goes with its binder when the oldest goes: the fifth is another ticket's. */
    private static void seenOfTickets() {
        ToyGreeting x = withTicket(99);
        x.early(10);
        for (int i = 0; i < 4; i++) {
            x.secret(C, 100 + i);
            again(x);
            x.step(S);
            if (i < 3) {
                x.drop(C);
            }
        }
        due("taken", x.count(5), 4);
        x.step(C);
        x.step(S);
        x.ticket(99);
        x.step(C);
        for (int i = 0; i < 4; i++) {
            x.secret(C, 200 + i);
            again(x);
            x.copy(S, i);
            x.step(S);
            x.drop(C);
            due("taken of ticket 2", x.count(5), 5 + i);
        }
        for (int i = 0; i < 4; i++) {
            replayed(x, i, 8);
        }
        due("seen", x.count(4), 4);
    }

    private static void replayed(ToyGreeting x, int place, int due) {
        x.fresh(S);
        x.inject(S, place);
        x.step(S);
        due("taken by then, of place " + place, x.count(5), due);
        x.drop(C);
    }

    private static void stepLetters() {
        name("promise 11, step: letters");
        for (int side = 0; side < 2; side++) {
            ToyGreeting x = joined();
            int other = 1 - side;
            for (int i = 0; i < 3; i++) {
                x.say(side, new int[] {0, 999, 512}[i]);
                due("step", x.step(other), 6);
                due("letters that came", x.count(7 + other), i + 1);
                due("letters of the other way", x.count(7 + side), 0);
                due("what they told", x.count(9 + other), new int[] {0, 999, 1511}[i]);
                due("count of the way", x.side(other, 10 + other), i + 1);
            }
            x.say(side, 5);
            x.copy(other, 0);
            x.alter(other, 1, x.message(other, 1) ^ 1);
            x.step(other);
            failed(x, other, 9);
            due("letters", x.count(7 + other), 3);
            x.inject(other, 0);
            x.step(other);
            failed(x, other, 9);
            ToyGreeting y = joined();
            y.say(side, 5);
            y.alter(other, 2, y.message(other, 2) + 1);
            y.step(other);
            failed(y, other, 9);
            ToyGreeting z = joined();
            z.say(side, 5);
            z.say(side, 6);
            z.drop(other);
            z.step(other);
            failed(z, other, 9);
            ToyGreeting w = joined();
            w.say(side, 5);
            w.copy(other, 0);
            w.step(other);
            w.inject(other, 0);
            w.step(other);
            failed(w, other, 9);
            ToyGreeting v = joined();
            v.say(side, 5);
            v.copy(other, 0);
            v.drop(other);
            v.inject(side, 0);
            v.step(side);
            failed(v, side, 9);
        }
        ToyGreeting x = joined();
        x.say(C, 0);
        int lock = mix(x.side(S, 7), 1, 0);
        x.alter(S, 1, MAX);
        x.alter(S, 2, mix(lock, MAX, 0));
        int digest = x.side(S, 2);
        x.step(S);
        due("what somebody sealed who knows the keys", x.count(10), MAX ^ (mix(lock, 0) & 1023));
        due("a letter is not taken in", x.side(S, 2), digest);
    }

    private static void stepUpdates() {
        name("promise 11, step: updates");
        for (int side = 0; side < 2; side++) {
            ToyGreeting x = joined();
            int other = 1 - side;
            x.update(side);
            x.say(side, 44);
            x.copy(other, 0);
            due("step", x.step(other), 7);
            due("epoch", x.side(other, 8 + other), 1);
            due("count", x.side(other, 10 + other), 1);
            due("epoch of the other way", x.side(other, 8 + side), 0);
            due("count of the other way", x.side(other, 10 + side), 0);
            x.step(other);
            due("told", x.count(9 + other), 44);
            due("letters", x.count(7 + other), 1);
            x.inject(other, 0);
            x.step(other);
            failed(x, other, 9);
            ToyGreeting y = joined();
            y.update(side);
            y.alter(other, 1, y.message(other, 1) ^ 1);
            y.step(other);
            failed(y, other, 9);
            ToyGreeting z = joined();
            z.update(side);
            z.say(side, 1);
            z.drop(other);
            z.step(other);
            failed(z, other, 9);
            ToyGreeting w = joined();
            w.update(side);
            w.step(other);
            w.say(other, 1);
            w.step(side);
            greet(w);
            due("epochs of a new greeting", w.side(C, 8) + w.side(C, 9) + w.side(S, 8) + w.side(S, 9), 0);
            due("counts of a new greeting", w.side(C, 10) + w.side(C, 11) + w.side(S, 10) + w.side(S, 11), 0);
        }
    }

    private static void ticket() {
        name("promise 12, ticket");
        ToyGreeting x = new ToyGreeting();
        for (int life : new int[] {-1, 100, MIN, MAX}) {
            due("ticket(" + life + ")", x.ticket(life), OUTSIDE);
        }
        due("idle", x.ticket(0), NOT);
        x.guess(3);
        x.hello();
        x.step(S);
        due("greeted", x.ticket(1), NOT);
        x.step(C);
        due("the client's joined", x.ticket(1), NOT);
        x.step(S);
        x.pass(6);
        due("ticket(0)", x.ticket(0), 1);
        firstIs(x, C, 5, 1, mix(1, 77), 0);
        due("outside ahead of all", x.ticket(100), OUTSIDE);
        due("ticket(99)", x.ticket(99), 2);
        x.pass(1);
        due("ticket(7)", x.ticket(7), 3);
        due("kept", x.count(3), 3);
        due("on the way", x.count(1), 3);
        ticketIs(x, 0, 1, 0, 6);
        ticketIs(x, 1, 2, 99, 6);
        ticketIs(x, 2, 3, 7, 7);
        due("ticket(8)", x.ticket(8), 4);
        due("kept", x.count(3), 3);
        ticketIs(x, 0, 2, 99, 6);
        ticketIs(x, 1, 3, 7, 7);
        ticketIs(x, 2, 4, 8, 7);
        x.ticket(9);
        ticketIs(x, 0, 3, 7, 7);
        x.drop(C);
        x.drop(C);
        firstIs(x, C, 5, 3, mix(3, 77), 7);
        for (int i = 0; i < 6; i++) {
            due("ticket()", x.ticket(1), 6 + i);
        }
        due("on the way", x.count(1), 8);
        due("gone", x.count(12), 1);
        due("kept all the same", x.kept(2, 0), 11);
        x.fresh(C);
        due("whatever the client is", x.ticket(1), 12);
        x.fresh(S);
        due("idle again", x.ticket(1), NOT);
        ToyGreeting y = new ToyGreeting();
        y.guess(3);
        y.offer(S, 3, 15);
        greet(y);
        due("of version 2", y.ticket(1), NOT);
        y.offer(S, 7, 15);
        due("of version 2 still", y.ticket(1), NOT);
        greet(y);
        y.offer(S, 1, 15);
        due("of version 3", y.ticket(1), 1);
    }

    private static void ticketIs(ToyGreeting x, int k, int number, int life, int since) {
        due("number of " + k, x.kept(k, 0), number);
        due("life of " + k, x.kept(k, 1), life);
        due("made of " + k, x.kept(k, 2), since);
        due("value of " + k, x.kept(k, 3), mix(x.side(S, 7), number));
        due("add of " + k, x.kept(k, 4), mix(number, 77));
    }

    private static void forget() {
        name("promise 13, forget");
        ToyGreeting x = joined();
        due("none", x.forget(), NOT);
        x.ticket(3);
        due("on the way", x.forget(), NOT);
        x.step(C);
        due("forget()", x.forget(), 1);
        due("none any more", x.forget(), NOT);
        due("held", x.held(0), NOT);
        due("the server keeps it", x.kept(0, 0), 1);
        x.ticket(3);
        x.step(C);
        x.fresh(C);
        due("forget()", x.forget(), 2);
        ToyGreeting y = withTicket(5);
        again(y);
        y.forget();
        y.step(S);
        y.step(C);
        due("of the last hello", y.side(C, 5), 1);
    }

    private static void say() {
        name("promise 14, say");
        ToyGreeting x = joined();
        for (int side : new int[] {-1, 2, MIN, MAX}) {
            due("say(" + side + ", 1)", x.say(side, 1), UNKNOWN);
            due("say(" + side + ", 1000)", x.say(side, 1000), UNKNOWN);
        }
        for (int v : new int[] {-1, 1000, MIN, MAX}) {
            due("say(0, " + v + ")", x.say(C, v), OUTSIDE);
            due("say(1, " + v + ")", x.say(S, v), OUTSIDE);
        }
        for (int side = 0; side < 2; side++) {
            int way = 1 - side;
            int main = x.side(side, 7);
            int lock = mix(main, way, 0);
            for (int i = 0; i < 3; i++) {
                int v = new int[] {0, 999, 321}[i];
                int sealed = v ^ (mix(lock, i) & 1023);
                due("count ahead", x.side(side, 10 + way), i);
                due("say", x.say(side, v), sealed);
                firstIs(x, way, 6, sealed, mix(lock, sealed, i));
                due("count", x.side(side, 10 + way), i + 1);
                due("count of the other way", x.side(side, 10 + side), side == 0 ? 0 : 3);
                due("epoch", x.side(side, 8 + way), 0);
                x.step(way);
            }
        }
        for (int i = 0; i < 8; i++) {
            x.say(C, 1);
        }
        due("on the way", x.count(2), 8);
        int lock = mix(x.side(C, 7), 1, 0);
        due("one that is gone", x.say(C, 1), 1 ^ (mix(lock, 11) & 1023));
        due("gone", x.count(12), 1);
        due("count", x.side(C, 11), 12);
        for (int side = 0; side < 2; side++) {
            x.fresh(side);
            due("idle", x.say(side, 1), NOT);
            due("idle, and outside", x.say(side, 1000), OUTSIDE);
        }
        ToyGreeting y = greeting(7);
        due("asked", y.say(C, 1), NOT);
        due("greeted", y.say(S, 1), NOT);
        y.step(C);
        due("joined, whatever the other is", y.say(C, 1) < 0 ? 1 : 0, 0);
    }

    private static void update() {
        name("promise 15, update");
        ToyGreeting x = joined();
        for (int side : new int[] {-1, 2, MIN, MAX}) {
            due("update(" + side + ")", x.update(side), UNKNOWN);
        }
        for (int side = 0; side < 2; side++) {
            int way = 1 - side;
            int main = x.side(side, 7);
            due("update", x.update(side), 1);
            firstIs(x, way, 7, mix(mix(main, way, 0), -1, 0));
            due("epoch", x.side(side, 8 + way), 1);
            due("epoch of the other way", x.side(side, 8 + side), 2 * side);
            due("count", x.side(side, 10 + way), 1);
            x.step(way);
            int sealed = 5 ^ (mix(mix(main, way, 1), 1) & 1023);
            due("say with the new lock", x.say(side, 5), sealed);
            firstIs(x, way, 6, sealed, mix(mix(main, way, 1), sealed, 1));
            x.step(way);
            due("update", x.update(side), 2);
            firstIs(x, way, 7, mix(mix(main, way, 1), -1, 2));
            x.step(way);
            due("joined", x.side(way, 0), JOINED);
        }
        for (int i = 0; i < 9; i++) {
            due("update", x.update(S), 3 + i);
        }
        due("one is gone", x.count(12), 1);
        x.fresh(C);
        x.fresh(S);
        due("idle", x.update(C), NOT);
        due("idle", x.update(S), NOT);
        ToyGreeting y = greeting(7);
        due("asked", y.update(C), NOT);
        due("greeted", y.update(S), NOT);
        due("nothing is sent", y.count(1) + y.count(2), 1);
    }

    private static void fresh() {
        name("promise 16, fresh");
        ToyGreeting x = new ToyGreeting();
        for (int side : new int[] {-1, 2, MIN, MAX}) {
            due("fresh(" + side + ")", x.fresh(side), UNKNOWN);
        }
        due("idle", x.fresh(C), IDLE);
        due("idle", x.fresh(S), IDLE);
        x.hello();
        due("asked", x.fresh(C), ASKED);
        due("digest", x.side(C, 2), 1);
        x.step(S);
        due("retried", x.fresh(S), RETRIED);
        due("digest", x.side(S, 2), 1);
        due("what is on the way stays", x.count(1), 1);
        x.step(C);
        due("failed", x.fresh(C), FAILED);
        due("reason", x.side(C, 1), 0);
        x.guess(3);
        x.hello();
        x.step(S);
        due("greeted", x.fresh(S), GREETED);
        x.step(C);
        due("joined", x.fresh(C), JOINED);
        ToyGreeting y = withTicket(50);
        y.early(6);
        y.say(C, 4);
        y.step(S);
        y.pass(3);
        again(y);
        y.step(S);
        y.say(C, 1);
        write(y, "gue");
        y.secret(C, 50);
        y.offer(S, 6, 14);
        int[] counts = new int[13];
        for (int what = 0; what < 13; what++) {
            counts[what] = y.count(what);
        }
        due("asked", y.fresh(C), ASKED);
        due("greeted", y.fresh(S), GREETED);
        for (int what = 0; what < 13; what++) {
            due("count(" + what + ")", y.count(what), counts[what]);
        }
        due("seen", y.count(4), 1);
        due("held", y.held(0), 1);
        due("kept", y.kept(0, 0), 1);
        due("secret", y.secret(C, 3), 50);
        due("offer", y.offer(S, 7, 15), 6);
        due("guess", y.guess(3), 3);
        due("early", y.early(6), 6);
        for (int side = 0; side < 2; side++) {
            for (int what = 3; what < 12; what++) {
                due("side", y.side(side, what), NONE);
            }
        }
    }

    private static void pass() {
        name("promise 17, pass");
        ToyGreeting x = new ToyGreeting();
        for (int n : new int[] {0, 100, -1, MIN, MAX}) {
            due("pass(" + n + ")", x.pass(n), OUTSIDE);
        }
        due("now", x.count(0), 0);
        due("pass(1)", x.pass(1), 1);
        due("pass(99)", x.pass(99), 100);
        due("now", x.count(0), 100);
    }

    private static void alter() {
        name("promise 18, alter");
        ToyGreeting x = new ToyGreeting();
        for (int side : new int[] {-1, 2, MIN, MAX}) {
            due("alter(" + side + ", 9, 0)", x.alter(side, 9, 0), UNKNOWN);
        }
        for (int i : new int[] {-1, 9, MIN, MAX}) {
            due("alter(0, " + i + ", 0)", x.alter(C, i, 0), OUTSIDE);
            due("alter(1, " + i + ", 0)", x.alter(S, i, 0), OUTSIDE);
        }
        due("none", x.alter(C, 0, 0), NOT);
        x.hello();
        due("none to the other", x.alter(C, 0, 0), NOT);
        int[] was = {1, 7, 15, 0, 10, 0, 0, 0, -1};
        for (int i = 0; i < 9; i++) {
            due("alter", x.alter(S, i, MIN + i), was[i]);
        }
        for (int i = 0; i < 9; i++) {
            due("message", x.message(S, i), MIN + i);
            due("alter", x.alter(S, i, MAX), MIN + i);
        }
        due("still one", x.count(2), 1);
        ToyGreeting y = joined();
        y.say(S, 1);
        y.update(S);
        y.alter(C, 0, 100);
        y.drop(C);
        due("only the first", y.message(C, 0), 7);
    }

    private static void drop() {
        name("promise 19, drop");
        ToyGreeting x = joined();
        for (int side : new int[] {-1, 2, MIN, MAX}) {
            due("drop(" + side + ")", x.drop(side), UNKNOWN);
        }
        due("none", x.drop(C), NOT);
        due("none", x.drop(S), NOT);
        x.update(C);
        x.say(C, 1);
        x.update(S);
        due("drop", x.drop(S), 1);
        due("the next", x.message(S, 0), 6);
        due("drop", x.drop(S), 0);
        due("none", x.drop(S), NOT);
        due("the other way's stays", x.count(1), 1);
        due("nothing came", x.side(S, 11), 0);
        due("these are not counted", x.count(12), 0);
        java.util.ArrayDeque<Integer> sealed = new java.util.ArrayDeque<>();
        for (int i = 0; i < 40; i++) {
            for (int j = i % 5; j < 4 && sealed.size() < 8; j++) {
                sealed.add(x.say(C, 17 * i % 1000));
            }
            if (!sealed.isEmpty()) {
                due("the first of those that were sent", x.message(S, 1), sealed.remove());
                due("drop", x.drop(S), sealed.size());
            }
        }
    }

    private static void copy() {
        name("promise 20, copy");
        ToyGreeting x = joined();
        for (int side : new int[] {-1, 2, MIN, MAX}) {
            due("copy(" + side + ", 0)", x.copy(side, 0), UNKNOWN);
        }
        for (int place : new int[] {-1, 4, MIN, MAX}) {
            due("copy(0, " + place + ")", x.copy(C, place), UNKNOWN);
            due("copy(1, " + place + ")", x.copy(S, place), UNKNOWN);
        }
        due("none", x.copy(C, 0), NOT);
        due("none", x.copy(S, 3), NOT);
        due("nothing was copied", x.inject(C, 0), NOT);
        x.update(C);
        x.say(C, 1);
        due("copy", x.copy(S, 3), 7);
        due("it stays on the way", x.count(2), 2);
        int tag = x.message(S, 1);
        x.alter(S, 1, 0);
        x.drop(S);
        due("copy", x.copy(S, 0), 6);
        due("inject", x.inject(C, 3), 1);
        due("as it was when it was copied", x.message(C, 1), tag);
        x.drop(C);
        x.copy(S, 3);
        x.inject(C, 3);
        due("over what was copied there", x.message(C, 0), 6);
        x.alter(C, 0, -5);
        due("the kind that somebody made of it", x.copy(C, 1), -5);
    }

    private static void inject() {
        name("promise 21, inject");
        ToyGreeting x = joined();
        x.update(C);
        x.copy(S, 2);
        for (int side : new int[] {-1, 2, MIN, MAX}) {
            due("inject(" + side + ", 2)", x.inject(side, 2), UNKNOWN);
        }
        for (int place : new int[] {-1, 4, MIN, MAX}) {
            due("inject(0, " + place + ")", x.inject(C, place), UNKNOWN);
        }
        for (int place : new int[] {0, 1, 3}) {
            due("inject(1, " + place + ")", x.inject(S, place), NOT);
        }
        int[] m = first(x, S);
        x.drop(S);
        x.say(C, 1);
        due("behind all", x.inject(S, 2), 2);
        due("the first", x.message(S, 0), 6);
        x.drop(S);
        firstIs(x, S, m);
        x.alter(S, 1, 5);
        x.drop(S);
        x.inject(S, 2);
        firstIs(x, S, m);
        for (int i = 2; i <= 8; i++) {
            due("inject", x.inject(S, 2), i);
        }
        due("8 are", x.inject(S, 2), FULL);
        due("8 are, and nothing was copied", x.inject(S, 0), NOT);
        due("8 are, and no such place", x.inject(S, 4), UNKNOWN);
        due("none is gone", x.count(12), 0);
        due("on the way", x.count(2), 8);
        due("to the other", x.inject(C, 2), 1);
    }

    private static void side() {
        name("promise 22, side");
        ToyGreeting x = new ToyGreeting();
        for (int side : new int[] {-1, 2, MIN, MAX}) {
            due("side(" + side + ", 0)", x.side(side, 0), UNKNOWN);
            due("side(" + side + ", 12)", x.side(side, 12), UNKNOWN);
        }
        for (int what : new int[] {-1, 12, MIN, MAX}) {
            due("side(0, " + what + ")", x.side(C, what), OUTSIDE);
            due("side(1, " + what + ")", x.side(S, what), OUTSIDE);
        }
        x.offer(S, 7, 4);
        x.offer(C, 3, 12);
        x.hello();
        for (int what = 3; what < 12; what++) {
            due("asked, side(0, " + what + ")", x.side(C, what), NONE);
        }
        x.step(S);
        for (int what = 3; what < 12; what++) {
            due("greeted, side(1, " + what + ")", x.side(S, what), NONE);
        }
        x.step(C);
        x.step(S);
        for (int side = 0; side < 2; side++) {
            due("version", x.side(side, 3), 2);
            due("group", x.side(side, 4), 2);
            due("resumed", x.side(side, 5), 0);
            int key = mix(7, Model.common(2, 8, 4), 0);
            due("key", x.side(side, 6), key);
            due("main", x.side(side, 7), mix(key, x.side(side, 2)));
        }
        x.update(C);
        x.update(C);
        x.update(S);
        x.say(S, 1);
        x.say(S, 1);
        int[] client = {0, 2, 0, 2};
        int[] server = {1, 0, 3, 0};
        for (int i = 0; i < 4; i++) {
            due("client's " + (8 + i), x.side(C, 8 + i), client[i]);
            due("server's " + (8 + i), x.side(S, 8 + i), server[i]);
        }
        x.alter(C, 1, 0);
        x.step(C);
        failed(x, C, 9);
    }

    private static void message() {
        name("promise 23, message");
        ToyGreeting x = new ToyGreeting();
        for (int side : new int[] {-1, 2, MIN, MAX}) {
            due("message(" + side + ", 0)", x.message(side, 0), UNKNOWN);
            due("message(" + side + ", 9)", x.message(side, 9), UNKNOWN);
        }
        for (int i : new int[] {-1, 9, MIN, MAX}) {
            due("message(0, " + i + ")", x.message(C, i), OUTSIDE);
            due("message(1, " + i + ")", x.message(S, i), OUTSIDE);
        }
        due("none", x.message(C, 8), NOT);
        due("none", x.message(S, 0), NOT);
        x.hello();
        firstIs(x, S, 1, 7, 15, 0, 10, 0, 0, 0, -1);
        firstIs(x, S, 1, 7, 15, 0, 10, 0, 0, 0, -1);
        due("none to the other", x.message(C, 0), NOT);
    }

    private static void kept() {
        name("promise 24, kept");
        ToyGreeting x = joined();
        due("none", x.kept(0, 0), UNKNOWN);
        due("none, and outside", x.kept(0, 5), UNKNOWN);
        x.pass(2);
        x.ticket(44);
        ticketIs(x, 0, 1, 44, 2);
        for (int what : new int[] {-1, 5, MIN, MAX}) {
            due("kept(0, " + what + ")", x.kept(0, what), OUTSIDE);
        }
        for (int k : new int[] {-1, 1, 2, 3, MIN, MAX}) {
            due("kept(" + k + ", 0)", x.kept(k, 0), UNKNOWN);
        }
        x.ticket(1);
        x.ticket(1);
        due("the third", x.kept(2, 0), 3);
        due("no fourth", x.kept(3, 0), UNKNOWN);
        x.pass(99);
        due("one whose life is over is kept", x.kept(1, 0), 2);
    }

    private static void held() {
        name("promise 25, held");
        ToyGreeting x = joined();
        for (int what : new int[] {-1, 5, MIN, MAX}) {
            due("held(" + what + ")", x.held(what), OUTSIDE);
        }
        for (int what = 0; what < 5; what++) {
            due("held(" + what + ")", x.held(what), NOT);
        }
        x.pass(3);
        x.ticket(44);
        x.pass(5);
        x.step(C);
        int[] want = {1, 44, 8, mix(x.side(C, 7), 1), mix(1, 77)};
        for (int what = 0; what < 5; what++) {
            due("held(" + what + ")", x.held(what), want[what]);
        }
        due("made", x.kept(0, 2), 3);
        due("held(5)", x.held(5), OUTSIDE);
    }

    private static void share() {
        name("promise 26, share");
        ToyGreeting x = new ToyGreeting();
        for (int group : new int[] {-1, 4, MIN, MAX}) {
            due("share(" + group + ", 1)", x.share(group, 1), UNKNOWN);
            due("share(" + group + ", 0)", x.share(group, 0), UNKNOWN);
        }
        for (int s : new int[] {0, 1000, -1, MIN, MAX}) {
            due("share(3, " + s + ")", x.share(3, s), OUTSIDE);
        }
        int[] primes = {23, 47, 59, 97};
        int[] bases = {5, 5, 2, 5};
        for (int group = 0; group < 4; group++) {
            int want = 1;
            for (int s = 1; s <= 999; s++) {
                want = want * bases[group] % primes[group];
                due("share(" + group + ", " + s + ")", x.share(group, s), want);
            }
        }
    }

    private static void count() {
        name("promise 27, count");
        ToyGreeting x = withTicket(60);
        for (int what : new int[] {-1, 13, MIN, MAX}) {
            due("count(" + what + ")", x.count(what), OUTSIDE);
        }
        x.ticket(1);
        x.drop(C);
        x.early(300);
        x.pass(2);
        again(x);
        x.step(S);
        x.step(C);
        x.step(S);
        x.say(C, 11);
        x.say(C, 12);
        x.say(S, 13);
        x.step(S);
        x.step(S);
        x.step(C);
        x.say(C, 1);
        x.say(C, 1);
        x.say(C, 1);
        x.update(S);
        write(x, "gues");
        int[] want = {2, 1, 3, 2, 1, 1, 300, 1, 2, 13, 23, 4, 0};
        for (int what = 0; what < 13; what++) {
            due("count(" + what + ")", x.count(what), want[what]);
        }
    }

    private static void lost() {
        name("promise 27, count of what is gone");
        ToyGreeting x = joined();
        for (int i = 0; i < 8; i++) {
            x.update(C);
            x.say(S, 1);
        }
        due("none yet", x.count(12), 0);
        x.say(C, 1);
        x.update(C);
        due("to the server", x.count(12), 2);
        x.ticket(1);
        due("to the client too", x.count(12), 3);
        x.fresh(C);
        x.hello();
        due("a hello", x.count(12), 4);
        x.copy(S, 0);
        due("inject is refused", x.inject(S, 0), FULL);
        due("and not counted", x.count(12), 4);
        ToyGreeting y = new ToyGreeting();
        y.guess(3);
        for (int i = 0; i < 8; i++) {
            y.hello();
            y.fresh(C);
        }
        for (int i = 0; i < 8; i++) {
            y.copy(S, 0);
            y.inject(C, 0);
        }
        y.step(S);
        due("a greeting", y.count(12), 1);
        due("greeted all the same", y.side(S, 0), GREETED);
        y.fresh(S);
        y.alter(S, 3, 0);
        y.step(S);
        due("a retry", y.count(12), 2);
        due("retried all the same", y.side(S, 0), RETRIED);
    }
}
