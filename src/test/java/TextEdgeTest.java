/** Each sentence under the mark 3 of the document's terms that names a bound of THE TEXT has a test of its own here. */
final class TextEdgeTest extends Play {
    private static final String[] ONE = {"guess 0", "guess 3", "early 0", "early 999", "client 1 1", "client 7 15",
        "server 1 1", "server 7 15", "secret 0 1", "secret 1 999"};

    public static void main(String[] args) {
        emptyText();
        lettersOf200();
        lettersOf0To255();
        letterAhead();
        letterBetween();
        letterBehind();
        clausesOf24();
        clauseEndsTooSoon();
        clauseWords();
        versionsOfAClause();
        groupsOfAClause();
        sideOfAClause();
        secretOfAClause();
        guessOfAClause();
        earlyOfAClause();
        digits1To3();
        blanksAnywhere();
        blanksNeedNot();
        firstFault();
        doneInTheirOrder();
        erasedText();
        settingsRefused();
        settingsAgain();
        end("TextEdgeTest");
    }

    // ---- helpers

    private static void fault(String text, int want) {
        ToyGreeting x = new ToyGreeting();
        write(x, text);
        due("fault() of '" + text + "'", x.fault(), want);
        due("the letters then", x.count(11), text.length());
        if (want == NONE) {
            due("settings() of '" + text + "'", x.settings(), (int) (1 + text.chars().filter(c -> c == ';').count()));
            due("the letters then", x.count(11), 0);
        } else {
            due("settings() of '" + text + "'", x.settings(), NOT);
            due("the letters then", x.count(11), text.length());
            untouched(x);
        }
    }

    /** What the text can set is as at first. */
    private static void untouched(ToyGreeting x) {
        due("guess", x.guess(0), 0);
        due("early", x.early(NONE), NONE);
        due("client's versions", x.offer(C, 7, 15), 7);
        due("server's versions", x.offer(S, 7, 15), 7);
        due("client's secret", x.secret(C, 3), 3);
        due("server's secret", x.secret(S, 4), 4);
    }

    private static boolean small(int letter) {
        return letter >= 97 && letter <= 122;
    }

    private static boolean digit(int letter) {
        return letter >= 48 && letter <= 57;
    }

    // ---- the text

    private static void emptyText() {
        name("an empty TEXT ends too soon");
        fault("", 0);
        for (int n : new int[] {1, 2, 199, 200}) {
            fault(" ".repeat(n), n);
        }
    }

    private static void lettersOf200() {
        name("a row of letters, 200 at most");
        for (int letter : new int[] {0, ' ', 'a', '0', ';', 255}) {
            ToyGreeting x = new ToyGreeting();
            for (int i = 1; i <= 200; i++) {
                due("type", x.type(letter), i);
            }
            for (int i = 0; i < 3; i++) {
                due("one more", x.type(letter), FULL);
                due("letters", x.count(11), 200);
            }
            due("erase", x.erase(), 200);
            due("and there is room again", x.type(letter), 1);
        }
        for (String clause : ONE) {
            int blanks = 200 - clause.length();
            fault(clause + " ".repeat(blanks), NONE);
            fault(" ".repeat(blanks) + clause, NONE);
            fault(clause + " ".repeat(blanks - 1) + ";", 200);
            fault(clause + ";" + " ".repeat(blanks - 1), 200);
            fault(" ".repeat(blanks - 1) + ";" + clause, blanks - 1);
            fault(clause + " ".repeat(blanks - 1) + "x", 199);
        }
        fault("a".repeat(200), 0);
        fault("0".repeat(200), 0);
        fault("guess" + "0".repeat(195), 5);
        fault("early 0;guess" + " ".repeat(187), 200);
        fault(" ".repeat(200 - 5) + "guess", 200);
        fault(" ".repeat(200 - 6) + "guess4", 199);
        ToyGreeting x = new ToyGreeting();
        write(x, "guess " + " ".repeat(193) + "23");
        due("the 201st letter is not there", x.settings(), 1);
        due("guess", x.guess(0), 2);
    }

    private static void lettersOf0To255() {
        name("a letter: its number, 0 to 255");
        ToyGreeting x = new ToyGreeting();
        for (int letter = 0; letter <= 127; letter++) {
            due("type(" + letter + ")", x.type(letter), letter + 1);
        }
        x.erase();
        for (int letter = 128; letter <= 255; letter++) {
            due("type(" + letter + ")", x.type(letter), letter - 127);
        }
        for (int letter : new int[] {-1, 256}) {
            due("type(" + letter + ")", x.type(letter), OUTSIDE);
        }
        for (int[] beyond : new int[][] {NEAR, FAR}) {
            for (int letter : beyond) {
                due("type(" + letter + ")", x.type(letter), OUTSIDE);
            }
        }
        due("letters", x.count(11), 128);
    }

    private static void letterAhead() {
        name("TOKENS, each letter ahead: small letters, digits, any other letter but a blank");
        for (int letter = 0; letter <= 255; letter++) {
            String text = (char) letter + "guess 0";
            fault(text, letter == ' ' ? NONE : 0);
            fault("early 5;" + text, letter == ' ' ? NONE : 8);
            fault("guess 1" + (char) letter + "guess 0", letter == ';' ? NONE : letter == ' ' ? 8 : digit(letter) ? 6 : 7);
        }
    }

    private static void letterBetween() {
        name("TOKENS, each letter between: a row of small letters, a row of digits, any other letter");
        for (int letter = 0; letter <= 255; letter++) {
            String sign = String.valueOf((char) letter);
            boolean stands = letter == ' ' || letter == '0';
            fault("guess" + sign + "3", stands ? NONE : small(letter) ? 0 : 5);
            fault("guess" + sign, letter == ' ' ? 6 : letter >= '0' && letter <= '3' ? NONE : small(letter) ? 0 : 5);
            fault("client 7" + sign + "1", letter == ' ' ? NONE : letter == '0' || digit(letter) ? 7 : 8);
            fault("gu" + sign + "ess 3", 0);
        }
    }

    private static void letterBehind() {
        name("TOKENS, each letter behind a clause");
        for (int letter = 0; letter <= 255; letter++) {
            String sign = String.valueOf((char) letter);
            fault("guess 0" + sign, letter == ' ' || letter >= '0' && letter <= '3' ? NONE
                : letter == ';' ? 8 : digit(letter) ? 6 : 7);
            fault("guess 0 " + sign, letter == ' ' ? NONE : letter == ';' ? 9 : 8);
        }
    }

    private static void clausesOf24() {
        name("CLAUSES with ; between, 1 to 24: behind the 24th no ; can stand");
        for (int n = 1; n <= 28; n++) {
            String row = "guess0" + ";guess1".repeat(n - 1);
            fault(row, n <= 24 ? NONE : 167);
            if (row.length() < 200) {
                fault(row + ";", n < 24 ? row.length() + 1 : 167);
            }
            if (row.length() < 199) {
                fault(row + "; ", n < 24 ? row.length() + 2 : 167);
                fault(row + " ;", n < 24 ? row.length() + 2 : n == 24 ? 168 : 167);
            }
            if (row.length() < 198) {
                fault(row + ";;", n < 24 ? row.length() + 1 : 167);
            }
        }
        String row = "guess0" + ";guess1".repeat(23);
        fault(row + " ".repeat(33), NONE);
        fault(row + " x", 168);
        fault(row + " 0", 168);
        fault(row + ".", 167);
        fault(row.substring(0, 166) + "4", 166);
        ToyGreeting x = new ToyGreeting();
        write(x, "early9" + ";guess1".repeat(22) + ";guess3");
        due("all 24 are done", x.settings(), 24);
        due("the first", x.early(NONE), 9);
        due("the last", x.guess(0), 3);
    }

    private static void clauseEndsTooSoon() {
        name("a FAULT is at the end, if it comes too soon: each beginning of each clause");
        for (String clause : ONE) {
            int word = clause.indexOf(' ');
            int last = clause.lastIndexOf(' ');
            for (int n = 0; n < clause.length(); n++) {
                String text = clause.substring(0, n);
                if (n > 0 && n < word) {
                    fault(text, 0);
                } else if (n <= last + 1) {
                    fault(text, n);
                } else {
                    fault(text, NONE);
                }
                if (n == 0 || n == word || n == last) {
                    fault(text + "   ", n + 3);
                    fault("early 1;" + text + " ", n + 9);
                    fault(text + ";", n);
                }
            }
        }
    }

    private static void clauseWords() {
        name("a clause begins with one of: client, server, secret, guess, early");
        for (String clause : ONE) {
            fault(clause, NONE);
            int word = clause.indexOf(' ');
            for (int i = 0; i < word; i++) {
                String behind = clause.substring(i + 1);
                fault(clause.substring(0, i) + behind, 0);
                fault(clause.substring(0, i) + (char) (clause.charAt(i) - 32) + behind, 0);
                fault(clause.substring(0, i) + (char) (clause.charAt(i) == 'z' ? 'a' : clause.charAt(i) + 1) + behind, 0);
                fault(clause.substring(0, i + 1) + clause.charAt(i) + behind, 0);
            }
            fault("x" + clause, 0);
            fault(clause.substring(0, word) + "x" + clause.substring(word), 0);
        }
        fault("guess 0;guesses 0", 8);
        fault("hello 0", 0);
        fault("clientserver 1 1", 0);
        fault("1 1", 0);
    }

    /** All numbers from 0 to 1100 in a place of a clause. */
    private static void numbers(String ahead, String behind, int least, int most) {
        for (int n = 0; n <= 1100; n++) {
            boolean is = n >= least && n <= most;
            ToyGreeting x = new ToyGreeting();
            write(x, ahead + n + behind);
            due("fault() of '" + ahead + n + behind + "'", x.fault(), is ? NONE : ahead.length());
            due("settings() of '" + ahead + n + behind + "'", x.settings(), is ? 1 : NOT);
        }
        for (String far : new String[] {"65536", "65537", "4294967297", "4294967296", "2147483648", "18446744073709551617",
            "9999999999999999999999", "0000", "0001", "1000", "-1", "+1", ".1"}) {
            fault(ahead + far + behind, ahead.length());
        }
    }

    private static void versionsOfAClause() {
        name("client V G, server V G: V 1 to 7");
        numbers("client ", " 1", 1, 7);
        numbers("server ", " 15", 1, 7);
        for (int side = 0; side < 2; side++) {
            for (int v = 1; v <= 7; v++) {
                ToyGreeting x = new ToyGreeting();
                write(x, (side == C ? "client " : "server ") + v + " 15");
                due("settings", x.settings(), 1);
                due("the other's", x.offer(1 - side, 7, 15), 7);
                due("versions", x.offer(side, 7, 15), v);
            }
        }
    }

    private static void groupsOfAClause() {
        name("client V G, server V G: G 1 to 15");
        numbers("client 1 ", "", 1, 15);
        numbers("server 7 ", "", 1, 15);
        for (int g = 1; g <= 15; g++) {
            ToyGreeting x = new ToyGreeting();
            write(x, "client 7 " + g);
            due("settings", x.settings(), 1);
            x.hello();
            due("client's groups", x.message(S, 2), g);
            ToyGreeting y = new ToyGreeting();
            write(y, "server 7 " + g);
            due("settings", y.settings(), 1);
            y.guess(Integer.numberOfTrailingZeros(g));
            y.offer(C, 7, Integer.lowestOneBit(g) | ~g & 15);
            y.hello();
            due("client's groups", y.message(S, 2), Integer.lowestOneBit(g) | ~g & 15);
            y.step(S);
            due("the only one that both have", y.message(C, 2), Integer.numberOfTrailingZeros(g));
        }
    }

    private static void sideOfAClause() {
        name("secret S N: S a SIDE");
        numbers("secret ", " 1", 0, 1);
        for (int side = 0; side < 2; side++) {
            ToyGreeting x = new ToyGreeting();
            write(x, "secret " + side + " 500");
            due("settings", x.settings(), 1);
            due("its secret", x.secret(side, 1), 500);
            due("the other's", x.secret(1 - side, 1), side == C ? 4 : 3);
        }
    }

    private static void secretOfAClause() {
        name("secret S N: N 1 to 999");
        numbers("secret 0 ", "", 1, 999);
        numbers("secret 1 ", "", 1, 999);
        for (int side = 0; side < 2; side++) {
            for (int n : new int[] {1, 9, 10, 99, 100, 999}) {
                ToyGreeting x = new ToyGreeting();
                write(x, "secret " + side + " " + n);
                due("settings", x.settings(), 1);
                due("secret", x.secret(side, 1), n);
            }
        }
    }

    private static void guessOfAClause() {
        name("guess G: a GROUP 0 to 3");
        numbers("guess ", "", 0, 3);
        for (int g = 0; g < 4; g++) {
            ToyGreeting x = new ToyGreeting();
            write(x, "guess " + g);
            due("settings", x.settings(), 1);
            due("guess", x.guess(0), g);
        }
    }

    private static void earlyOfAClause() {
        name("early N: N 0 to 999");
        numbers("early ", "", 0, 999);
        for (int n : new int[] {0, 9, 10, 99, 100, 999}) {
            ToyGreeting x = new ToyGreeting();
            write(x, "early " + n);
            due("settings", x.settings(), 1);
            due("early", x.early(NONE), n);
        }
    }

    private static void digits1To3() {
        name("numbers of 1 to 3 digits");
        String[][] slots = {{"client ", " 1"}, {"client 1 ", ""}, {"server ", " 1"}, {"server 1 ", ""}, {"secret ", " 1"},
            {"secret 1 ", ""}, {"guess ", ""}, {"early ", ""}};
        for (String[] slot : slots) {
            for (String number : new String[] {"1", "01", "001"}) {
                fault(slot[0] + number + slot[1], NONE);
            }
            for (String number : new String[] {"0001", "00001", "0".repeat(50) + "1"}) {
                fault(slot[0] + number + slot[1], slot[0].length());
            }
            fault(slot[0] + ";", slot[0].length());
            fault(slot[0] + "1a" + slot[1], slot[0].length() + 1);
            fault(slot[0] + "a1" + slot[1], slot[0].length());
        }
        ToyGreeting x = new ToyGreeting();
        write(x, "early 007;guess 003;secret 0 010");
        due("settings", x.settings(), 3);
        due("early", x.early(NONE), 7);
        due("guess", x.guess(0), 3);
        due("secret", x.secret(C, 3), 10);
    }

    private static void blanksAnywhere() {
        name("blanks may stand ahead of, between and behind TOKENS");
        String[][] rows = {{"guess", "0"}, {"early", "999"}, {"secret", "0", "1"}, {"client", "7", "15"},
            {"guess", "0", ";", "early", "1"}};
        for (String[] tokens : rows) {
            for (int at = 0; at <= tokens.length; at++) {
                for (int n : new int[] {1, 2, 50}) {
                    StringBuilder text = new StringBuilder();
                    for (int i = 0; i <= tokens.length; i++) {
                        text.append(" ".repeat(i == at ? n : i == 0 || i == tokens.length ? 0 : 1));
                        text.append(i < tokens.length ? tokens[i] : "");
                    }
                    fault(text.toString(), NONE);
                }
            }
        }
    }

    private static void blanksNeedNot() {
        name("blanks need not stand where TOKENS end without");
        fault("guess0", NONE);
        fault("early999", NONE);
        fault("secret0 1", NONE);
        fault("client7 15", NONE);
        fault("server7 15;guess0;early9", NONE);
        fault("secret01", 8);
        fault("secret0 1guess0", 9);
        fault("client715", 6);
        fault("client77", 6);
        fault("client17", 6);
        fault("client7", 7);
    }

    private static void firstFault() {
        name("a FAULT is at the first TOKEN that cannot stand there");
        fault("guess 4;guess 5", 6);
        fault("guess 0;guess 5;x", 14);
        fault("client 8 16", 7);
        fault("client 7 16", 9);
        fault("secret 2 0", 7);
        fault("secret 1 0", 9);
        fault("guess 0 x;guess 9", 8);
        fault("early 1000;", 6);
        fault("guess ; guess 1", 6);
        fault("; guess 1", 0);
        fault("guess 0 ;  ; guess 1", 11);
        fault("client 1 ;", 9);
        fault("client ; 1", 7);
        fault("guess 0   4444", 10);
    }

    private static void doneInTheirOrder() {
        name("CLAUSES are done in their order");
        ToyGreeting x = new ToyGreeting();
        write(x, "guess 1;guess 2;early 1;early 0;secret 0 999;secret 0 1;secret 1 1;secret 1 999;client 1 1;client 7 8");
        write(x, ";server 1 15;server 7 1");
        due("settings", x.settings(), 12);
        due("guess", x.guess(0), 2);
        due("early", x.early(NONE), 0);
        due("client's secret", x.secret(C, 3), 1);
        due("server's secret", x.secret(S, 4), 999);
        x.hello();
        due("client's versions", x.message(S, 1), 7);
        due("client's groups", x.message(S, 2), 8);
        due("server's versions", x.offer(S, 7, 1), 7);
        x.step(S);
        failed(x, S, 3);
    }

    private static void erasedText() {
        name("THE TEXT is empty: what stood there is no more");
        ToyGreeting x = new ToyGreeting();
        write(x, "guess 3;early 5");
        due("erase", x.erase(), 15);
        due("erase of nothing", x.erase(), 0);
        due("letters", x.count(11), 0);
        due("fault", x.fault(), 0);
        due("settings", x.settings(), NOT);
        write(x, "guess ");
        due("what stood behind is not read", x.fault(), 6);
        untouched(x);
    }

    private static void settingsRefused() {
        name("settings: NOT: it has a FAULT; then no clause is done");
        String good = "guess 3;early 5;secret 0 9;secret 1 9;client 1 1;server 1 1";
        for (String bad : new String[] {";", ";x", ";guess 4", ";guess", " x", ";early 1000", ";client 1", ";secret 0 0"}) {
            ToyGreeting x = new ToyGreeting();
            write(x, good + bad);
            due("settings of " + bad, x.settings(), NOT);
            due("letters", x.count(11), good.length() + bad.length());
            untouched(x);
            x.hello();
            due("client's groups", x.message(S, 2), 15);
        }
    }

    private static void settingsAgain() {
        name("settings: THE TEXT's CLAUSES are done, and it is empty then");
        ToyGreeting x = new ToyGreeting();
        int had = 0;
        for (int i = 0; i < 10; i++) {
            int next = (had + 1) % 4;
            write(x, "guess " + next);
            due("fault", x.fault(), NONE);
            due("fault alone does nothing", x.guess(had), had);
            due("settings", x.settings(), 1);
            due("letters", x.count(11), 0);
            due("of an empty one", x.settings(), NOT);
            due("guess", x.guess(next), next);
            had = next;
        }
    }
}
