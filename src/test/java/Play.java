/** What the tests of single answers have alike: the checks, and the ways to a state. */
abstract class Play {
    static final int NONE = -1, UNKNOWN = -2, OUTSIDE = -3, NOT = -4, FULL = -5;
    static final int C = 0, S = 1;
    static final int IDLE = 0, ASKED = 1, RETRIED = 2, GREETED = 3, JOINED = 4, FAILED = 5;
    static final int HELLO = 1, RETRY = 2, GREETING = 3, FINISH = 4, TICKET = 5, LETTER = 6, UPDATE = 7;
    static final int MIN = Integer.MIN_VALUE, MAX = Integer.MAX_VALUE;
    static final int[] PRIME = {23, 47, 59, 97}, BASE = {5, 5, 2, 5};

    /** Beyond all ranges of the document, and small again to one who leaves out all but the lowest 16 bits. */
    static final int[] FAR = {MIN, MIN + 1, -65536, -65535, 65536, 65537, 65538, MAX - 1, MAX};

    /** Beyond the ranges that end below 256, and small again to one who leaves out all but the lowest 8 bits. */
    static final int[] NEAR = {-256, -255, 256, 257, 258};

    private static String test = "";
    private static int checksAhead = -1;
    private static int checks = 0;
    private static int wrong = 0;

    static void due(String what, int got, int want) {
        checks++;
        if (got != want) {
            wrong++;
            System.out.println(test + ": " + what + " answered " + got + ", due is " + want);
        }
    }

    /** A new test begins; one that looked at nothing is none. */
    static void name(String named) {
        if (checksAhead == checks) {
            wrong++;
            System.out.println(test + ": no answer was looked at");
        }
        checksAhead = checks;
        test = named;
    }

    static void end(String who) {
        name(who);
        System.out.println(who + ": " + checks + " answers, " + wrong + " not as due");
        if (wrong != 0) {
            System.exit(1);
        }
    }

    static int mix(int h, int... xs) {
        return Model.mix(h, xs);
    }

    static void write(ToyGreeting x, String text) {
        for (int i = 0; i < text.length(); i++) {
            x.type(text.charAt(i));
        }
    }

    /** Both joined with the group 3, the version 3. */
    static ToyGreeting joined() {
        ToyGreeting x = new ToyGreeting();
        x.guess(3);
        greet(x);
        return x;
    }

    static void greet(ToyGreeting x) {
        x.fresh(C);
        x.fresh(S);
        x.hello();
        x.step(S);
        x.step(C);
        x.step(S);
        due("the client is joined", x.side(C, 0), JOINED);
        due("the server is joined", x.side(S, 0), JOINED);
    }

    /** Both joined, and the client holds ticket 1. */
    static ToyGreeting withTicket(int life) {
        ToyGreeting x = joined();
        due("ticket()", x.ticket(life), 1);
        x.step(C);
        return x;
    }

    static void again(ToyGreeting x) {
        x.fresh(C);
        x.fresh(S);
        due("hello()", x.hello(), 1);
    }

    static int[] first(ToyGreeting x, int side) {
        int[] m = new int[9];
        for (int i = 0; i < 9; i++) {
            m[i] = x.message(side, i);
        }
        return m;
    }

    static void firstIs(ToyGreeting x, int side, int... want) {
        for (int i = 0; i < 9; i++) {
            due("message(" + side + ", " + i + ")", x.message(side, i), i < want.length ? want[i] : 0);
        }
    }

    static void failed(ToyGreeting x, int side, int reason) {
        due("the state of " + side, x.side(side, 0), FAILED);
        due("the reason of " + side, x.side(side, 1), reason);
        for (int what = 3; what < 12; what++) {
            due("side(" + side + ", " + what + ")", x.side(side, what), NONE);
        }
    }

    /** A greeting on the way to a client of the given versions. */
    static ToyGreeting greeting(int versions) {
        ToyGreeting x = new ToyGreeting();
        x.guess(3);
        x.offer(C, versions, 15);
        x.hello();
        x.step(S);
        return x;
    }

    /** Drops all that is on the way to a side. */
    static void clear(ToyGreeting x, int side) {
        for (int i = x.count(1 + side); i > 0; i--) {
            x.drop(side);
        }
    }

    /** A message of a kind comes to a side, made of what was copied to a place. */
    static void comes(ToyGreeting x, int side, int place, int... numbers) {
        int behind = x.count(1 + side);
        due("none is on the way", behind, 0);
        x.inject(side, place);
        for (int i = 0; i < 9; i++) {
            x.alter(side, i, i < numbers.length ? numbers[i] : 0);
        }
        due("step", x.step(side), numbers[0]);
    }
}
