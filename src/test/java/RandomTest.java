import java.util.ArrayList;
import java.util.List;
import java.util.Random;

/** Runs of calls drawn with fixed seeds: the program must answer each as the model does. */
final class RandomTest {
    private static final int RUNS = 6000, MOST_CALLS = 512, CALLS_OF_A_LOOK = 80;
    private static final int[] EDGES = {-2, -1, 0, 1, 2, 3, 4, 5, 6, 7, 8, 9, 10, 11, 12, 13, 15, 16, 22, 23, 46, 47,
        58, 59, 96, 97, 99, 100, 255, 256, 999, 1000, 1023, 1024, Integer.MAX_VALUE, Integer.MIN_VALUE};
    private static final String[] NAMES = {"type", "erase", "fault", "settings", "offer", "secret", "guess", "early",
        "hello", "step", "ticket", "forget", "say", "update", "fresh", "pass", "alter", "drop", "copy", "inject",
        "side", "message", "kept", "held", "share", "count"};

    /** How often a run's call found each side failed by each reason, so that the runs do reach them all. */
    private static final int[][] FOUND = new int[2][10];
    private static final int[][] REASONS = {{1, 2, 4, 5, 6, 7, 8, 9}, {1, 2, 3, 4, 5, 6, 8, 9}};
    private static int most = 0;

    private final ToyGreeting x = new ToyGreeting();
    private final Model model = new Model();
    private final Random random;
    private final List<String> log = new ArrayList<>();
    private boolean wrong;

    private RandomTest(long seed) {
        random = new Random(seed);
    }

    public static void main(String[] args) {
        int failed = 0;
        for (int seed = 1; seed <= RUNS && failed < 3; seed++) {
            RandomTest test = new RandomTest(seed);
            test.run();
            if (test.wrong) {
                failed++;
                int last = test.log.size();
                System.out.println("RandomTest, seed " + seed + ":");
                test.log.subList(Math.max(0, last - 40), last).forEach(System.out::println);
            }
        }
        for (int side = 0; side < 2 && failed == 0; side++) {
            for (int reason : REASONS[side]) {
                if (FOUND[side][reason] < 100) {
                    System.out.println("RandomTest: side " + side + " hardly ever failed by " + reason);
                    failed++;
                }
            }
        }
        if (failed == 0 && most < 6) {
            System.out.println("RandomTest: the runs took hardly any early letters");
            failed++;
        }
        System.out.println("RandomTest: " + (failed == 0 ? RUNS + " runs as the model" : "answers off"));
        if (failed != 0) {
            System.exit(1);
        }
    }

    static int answer(ToyGreeting x, String name, int a, int b, int c) {
        return switch (name) {
            case "type" -> x.type(a);
            case "erase" -> x.erase();
            case "fault" -> x.fault();
            case "settings" -> x.settings();
            case "offer" -> x.offer(a, b, c);
            case "secret" -> x.secret(a, b);
            case "guess" -> x.guess(a);
            case "early" -> x.early(a);
            case "hello" -> x.hello();
            case "step" -> x.step(a);
            case "ticket" -> x.ticket(a);
            case "forget" -> x.forget();
            case "say" -> x.say(a, b);
            case "update" -> x.update(a);
            case "fresh" -> x.fresh(a);
            case "pass" -> x.pass(a);
            case "alter" -> x.alter(a, b, c);
            case "drop" -> x.drop(a);
            case "copy" -> x.copy(a, b);
            case "inject" -> x.inject(a, b);
            case "side" -> x.side(a, b);
            case "message" -> x.message(a, b);
            case "kept" -> x.kept(a, b);
            case "held" -> x.held(a);
            case "share" -> x.share(a, b);
            default -> x.count(a);
        };
    }

    private void call(String name, int... given) {
        int[] a = java.util.Arrays.copyOf(given, 3);
        if (wrong || log.size() >= MOST_CALLS) {
            return;
        }
        int due = model.call(name, a[0], a[1], a[2]);
        int got;
        try {
            got = answer(x, name, a[0], a[1], a[2]);
        } catch (RuntimeException e) {
            log.add(name + java.util.Arrays.toString(given) + " threw " + e);
            wrong = true;
            return;
        }
        log.add(name + java.util.Arrays.toString(given) + " answered " + got + (got == due ? "" : ", due is " + due));
        wrong = got != due;
        FOUND[0][model.half[0].reason]++;
        FOUND[1][model.half[1].reason]++;
        most = Math.max(most, model.earlyCount);
    }

    private void run() {
        int length = 20 + random.nextInt(MOST_CALLS - CALLS_OF_A_LOOK - 20);
        boolean wild = random.nextInt(4) == 0;
        if (random.nextInt(3) == 0) {
            setUp();
        }
        while (log.size() < length && !wrong) {
            if (wild && random.nextInt(3) == 0) {
                anyCall();
            } else {
                play();
            }
            look();
        }
        lookAtAll();
    }

    private int of(int n) {
        return random.nextInt(n);
    }

    private int edge() {
        return of(12) == 0 ? random.nextInt() : EDGES[of(EDGES.length)];
    }

    private int nearly(int n) {
        return of(40) == 0 ? edge() : of(n);
    }

    private void anyCall() {
        call(NAMES[of(NAMES.length)], nearly(4), nearly(5), of(2) == 0 ? edge() : of(12));
    }

    private void look() {
        switch (of(5)) {
            case 0 -> call("side", nearly(2), nearly(12));
            case 1 -> call("message", nearly(2), nearly(9));
            case 2 -> call("kept", nearly(3), nearly(5));
            case 3 -> call("held", nearly(5));
            default -> call("count", nearly(13));
        }
    }

    private void lookAtAll() {
        for (int side = 0; side < 2; side++) {
            for (int what = 0; what < 12; what++) {
                call("side", side, what);
            }
            for (int i = 0; i < 9; i++) {
                call("message", side, i);
            }
        }
        for (int what = 0; what < 15; what++) {
            call("kept", what / 5, what % 5);
        }
        for (int what = 0; what < 5; what++) {
            call("held", what);
        }
        for (int what = 0; what < 13; what++) {
            call("count", what);
        }
    }

    private void setUp() {
        call("offer", 0, 1 + of(7), 1 + of(15));
        call("offer", 1, 1 + of(7), 1 + of(15));
        call("secret", 0, 1 + of(999));
        call("secret", 1, 1 + of(999));
        call("guess", of(4));
        call("early", of(1000) - 1);
    }

    private void play() {
        switch (of(26)) {
            case 0, 1, 2, 3 -> greet();
            case 4, 5 -> greetAgain();
            case 6 -> call("ticket", of(3) == 0 ? nearly(6) : 50 + of(50));
            case 7 -> call("pass", 1 + of(3));
            case 8 -> call("pass", nearly(100));
            case 9 -> call("early", of(4) == 0 ? edge() : of(1000) - 1);
            case 10 -> call("alter", nearly(2), nearly(9), of(2) == 0 ? of(8) : edge());
            case 11 -> call("copy", nearly(2), nearly(4));
            case 12 -> call("inject", nearly(2), nearly(4));
            case 13 -> call("drop", nearly(2));
            case 14 -> call("say", nearly(2), of(3) == 0 ? edge() : of(1000));
            case 15 -> call("update", nearly(2));
            case 16, 17 -> drain();
            case 18 -> settings();
            case 19 -> call("share", nearly(4), of(3) == 0 ? edge() : of(1001));
            case 20 -> tellMore();
            case 21 -> call("fresh", nearly(2));
            case 22 -> forge();
            case 23 -> flood();
            case 24 -> replay();
            default -> anyCall();
        }
    }

    private void tellMore() {
        switch (of(6)) {
            case 0 -> call("offer", nearly(2), of(3) == 0 ? 7 : 1 + nearly(7), 1 + nearly(15));
            case 1 -> call("secret", nearly(2), of(3) == 0 ? edge() : 1 + of(999));
            case 2 -> call("guess", nearly(4));
            case 3 -> call("forget");
            case 4 -> call("offer", 0, 7, 15);
            default -> call("offer", 1, 7, 15);
        }
    }

    private void drain() {
        for (int i = 0; i < 6; i++) {
            call("step", of(8) == 0 ? of(2) : model.way.get(0).isEmpty() ? 1 : 0);
        }
    }

    private void clear(int side) {
        while (!model.way.get(side).isEmpty() && !wrong && log.size() < MOST_CALLS) {
            call("drop", side);
        }
    }

    /** A whole handshake, in which somebody between alters a number now and then. */
    private void greet() {
        if (of(3) == 0) {
            clear(0);
            clear(1);
        }
        call("fresh", 0);
        call("fresh", 1);
        int meddled = of(3) == 0 ? of(5) : -1;
        call("hello");
        for (int i = 0; i < 5; i++) {
            int to = i % 2 == 0 ? 1 : 0;
            if (meddled == i) {
                meddle(to);
            }
            if (of(30) == 0) {
                tellMore();
            }
            if (of(12) == 0) {
                call("copy", to, of(4));
            }
            look();
            if (!model.way.get(to).isEmpty()) {
                call("step", to);
            }
        }
    }

    /** A handshake, a ticket, and a shorter handshake with it. */
    private void greetAgain() {
        call("offer", 0, 4 + of(4), 15);
        call("offer", 1, 4 + of(4), 15);
        call("guess", 3);
        greet();
        call("ticket", of(10));
        drain();
        if (of(2) == 0) {
            call("early", of(1000));
        }
        if (of(2) == 0) {
            call("pass", 1 + of(4));
        }
        greet();
    }

    private void meddle(int to) {
        if (model.way.get(to).isEmpty()) {
            return;
        }
        int[] m = model.way.get(to).get(0);
        int i = of(9);
        switch (of(4)) {
            case 0 -> call("alter", to, i, edge());
            case 1 -> call("alter", to, i, m[i] + 1 - 2 * of(2));
            case 2 -> call("pass", 1 + of(4));
            default -> call("alter", to, i, of(8));
        }
        if (of(3) == 0) {
            forge();
        }
    }

    /** Somebody between who knows the keys makes altered numbers fit again. */
    private void forge() {
        int to = of(2);
        if (model.way.get(to).isEmpty()) {
            return;
        }
        int[] m = model.way.get(to).get(0).clone();
        Model.Half a = model.half[to];
        if (m[0] == 6) {
            call("alter", to, 1, edge());
            m = model.way.get(to).get(0);
            call("alter", to, 2, Model.mix(Model.lock(a, to), m[1], a.count[to]));
        } else if (m[0] == 1 && model.held != null) {
            int i = of(4) == 0 ? 6 : 8;
            call("alter", to, i, of(3) == 0 ? edge() : m[i] + of(7) - 3);
            m = model.way.get(to).get(0);
            call("alter", to, 7, Model.binder(model.held.value(), a.digest, m));
        } else if (m[0] == 3 && Model.groupOf(15, m[2]) && model.askedGroup == m[2]) {
            call("alter", to, 4 + of(3), edge());
            m = model.way.get(to).get(0);
            boolean resumed = m[5] != 0 && model.askedTicket != null;
            int key = Model.key(m[2], m[3], a.secret, resumed ? model.askedTicket.value() : 0);
            Model.Half copy = new Model.Half();
            copy.digest = a.digest;
            model.takeIn(copy, m);
            call("alter", to, 7, Model.mix(key, copy.digest, 1));
        }
    }

    private void flood() {
        int side = of(2);
        for (int i = 0; i < 10; i++) {
            switch (of(4)) {
                case 0 -> call("inject", side, of(4));
                case 1 -> call("update", 1 - side);
                default -> call("say", 1 - side, of(1000));
            }
        }
        call("count", 12);
        for (int i = 0; i < 10 && of(12) != 0; i++) {
            call("step", side);
        }
    }

    /** The same early letter comes more than once, and others with it. */
    private void replay() {
        if (model.held == null) {
            return;
        }
        clear(1);
        call("fresh", 0);
        call("hello");
        for (int i = 0; i < 1 + of(6); i++) {
            call("copy", 1, i % 4);
            if (of(3) == 0) {
                call("fresh", 0);
                call("pass", 1);
                clear(1);
                call("hello");
            }
        }
        for (int i = 0; i < 4; i++) {
            call("inject", 1, of(4));
            call("fresh", 1);
            call("step", 1);
            call("count", 4);
            call("count", 5);
        }
        clear(0);
    }

    // ---- texts

    private void settings() {
        if (of(4) != 0) {
            call("erase");
        }
        StringBuilder text = new StringBuilder();
        int clauses = of(12) == 0 ? 20 + of(8) : 1 + of(4);
        boolean tight = clauses > 10;
        for (int i = 0; i < clauses; i++) {
            text.append(i == 0 ? "" : ";").append(tight && of(8) != 0 ? "guess" + of(4) : clause(tight));
        }
        if (of(3) == 0 && text.length() > 0) {
            spoil(text);
        }
        for (int i = 0; i < text.length(); i++) {
            call("type", text.charAt(i));
        }
        call("fault");
        call("settings");
        call("count", 11);
    }

    private void spoil(StringBuilder text) {
        int at = of(text.length());
        switch (of(4)) {
            case 0 -> text.deleteCharAt(at);
            case 1 -> text.insert(at, (char) of(256));
            case 2 -> text.insert(at, " ;0a9".charAt(of(5)));
            default -> text.setLength(at);
        }
    }

    private String blanks(boolean must) {
        return " ".repeat((must ? 1 : 0) + (of(4) == 0 ? of(3) : 0));
    }

    private String number(int least, int most) {
        int value = of(20) == 0 ? edge() : least + of(most - least + 1);
        String digits = Integer.toString(value);
        return of(6) == 0 && digits.length() < 3 ? "0" + digits : digits;
    }

    private String clause(boolean tight) {
        String word = new String[] {"client", "server", "secret", "guess", "early"}[of(5)];
        int[][] ranges = switch (word) {
            case "client", "server" -> new int[][] {{1, 7}, {1, 15}};
            case "secret" -> new int[][] {{0, 1}, {1, 999}};
            case "guess" -> new int[][] {{0, 3}};
            default -> new int[][] {{0, 999}};
        };
        StringBuilder clause = new StringBuilder(tight ? "" : blanks(false)).append(word);
        for (int i = 0; i < ranges.length; i++) {
            clause.append(i == 0 && of(2) == 0 ? "" : blanks(true)).append(number(ranges[i][0], ranges[i][1]));
        }
        return clause.append(tight ? "" : blanks(false)).toString();
    }
}
