import java.util.ArrayList;
import java.util.Arrays;
import java.util.List;
import java.util.Set;
import java.util.TreeSet;

/**
 * Each refused call, in each state: that it answers as told, that the refusal that the call names first is answered
 * where several fit, and that nothing changes by it: a twin to which it was not done answers the same ever after.
 */
final class RefusedTest extends Play {
    private record Call(String name, int a, int b, int c, int due) { }

    private static final int MOST_CALLS = 512;

    /** What each call can be refused with, as its promise tells. */
    private static final Set<String> TOLD = Set.of("type -3", "type -5", "settings -4", "offer -2", "offer -3", "secret -2",
        "secret -3", "guess -3", "early -3", "hello -4", "step -2", "step -4", "ticket -3", "ticket -4", "forget -4",
        "say -2", "say -3", "say -4", "update -2", "update -4", "fresh -2", "pass -3", "alter -2", "alter -3", "alter -4",
        "drop -2", "drop -4", "copy -2", "copy -4", "inject -2", "inject -4", "inject -5", "side -2", "side -3",
        "message -2", "message -3", "message -4", "kept -2", "kept -3", "held -3", "held -4", "share -2", "share -3",
        "count -3");

    private static final String[] STATES = {"new", "asked", "retried", "asked again", "greeted", "client joined", "joined",
        "of version 2", "failed", "full", "faulty", "resumed"};

    private static final Set<String> refused = new TreeSet<>();
    private static int calls = 0;

    public static void main(String[] args) {
        for (String state : STATES) {
            name("refused calls, state: " + state);
            ToyGreeting seen = in(state);
            for (Call call : refusals(seen, copied(state))) {
                refuse(state, call);
            }
        }
        name("every refusal that the promises tell");
        for (String told : TOLD) {
            due(told, refused.contains(told) ? 1 : 0, 1);
        }
        due("and no other", refused.size(), TOLD.size());
        severalThatFit();
        end("RefusedTest");
    }

    // ---- the states

    private static ToyGreeting in(String state) {
        ToyGreeting x = new ToyGreeting();
        switch (state) {
            case "new": break;
            case "asked": settle(x, 0); x.hello(); break;
            case "retried": settle(x, 0); x.hello(); x.copy(S, 1); x.step(S); break;
            case "asked again": settle(x, 0); x.hello(); x.step(S); x.step(C); break;
            case "greeted": settle(x, 3); x.hello(); x.copy(S, 3); x.step(S); break;
            case "client joined": settle(x, 3); x.hello(); x.step(S); x.step(C); break;
            case "joined": join(x); talk(x); break;
            case "of version 2": x.offer(S, 3, 15); join(x); x.update(C); break;
            case "failed": join(x); talk(x); failBoth(x); break;
            case "full": join(x); talk(x); fill(x); break;
            case "faulty": join(x); write(x, "guess 1;early 7;guess 4"); break;
            default: join(x); x.ticket(9); x.step(C); x.early(5); x.fresh(C); x.fresh(S); x.hello(); x.copy(S, 0); x.step(S);
        }
        return x;
    }

    private static int[] copied(String state) {
        switch (state) {
            case "retried": return new int[] {1};
            case "greeted": return new int[] {3};
            case "joined": case "failed": case "full": return new int[] {0, 2};
            case "resumed": return new int[] {0};
            default: return new int[0];
        }
    }

    private static void settle(ToyGreeting x, int guess) {
        x.guess(guess);
        x.early(50);
        x.secret(C, 70);
        x.secret(S, 80);
        x.offer(C, 7, 13);
        x.offer(S, 6, 14);
        x.pass(5);
        write(x, "guess 2");
    }

    private static void join(ToyGreeting x) {
        x.guess(3);
        greet(x);
    }

    private static void talk(ToyGreeting x) {
        x.ticket(40);
        x.step(C);
        x.pass(3);
        x.ticket(50);
        x.copy(C, 0);
        x.update(C);
        x.update(C);
        x.step(S);
        x.say(C, 999);
        x.copy(S, 2);
        write(x, "early 3;g");
    }

    private static void failBoth(ToyGreeting x) {
        x.alter(C, 0, 0);
        x.step(C);
        x.alter(S, 1, 0);
        x.step(S);
        x.inject(C, 2);
    }

    private static void fill(ToyGreeting x) {
        while (x.count(1) < 8) {
            x.say(S, 8);
        }
        while (x.count(2) < 8) {
            x.inject(S, 2);
        }
        for (int i = x.count(11); i < 200; i++) {
            x.type(' ');
        }
        due("letters", x.count(11), 200);
    }

    // ---- the refusals

    private static int[] all(int[] beyond, int... more) {
        int[] joined = Arrays.copyOf(beyond, beyond.length + more.length);
        System.arraycopy(more, 0, joined, beyond.length, more.length);
        return joined;
    }

    /** Numbers outside a range that ends below 256. */
    private static int[] outside(int least, int most) {
        return all(all(FAR, NEAR), least - 1, most + 1);
    }

    /** Numbers outside a range that ends above 256. */
    private static int[] outsideWide(int least, int most) {
        return all(FAR, least - 1, most + 1);
    }

    private static List<Call> refusals(ToyGreeting x, int[] copied) {
        List<Call> list = new ArrayList<>();
        for (int side : outside(0, 1)) {
            unknownSide(list, side);
        }
        for (int place : outside(0, 3)) {
            for (int side = 0; side < 2; side++) {
                list.add(new Call("copy", side, place, 0, UNKNOWN));
                list.add(new Call("inject", side, place, 0, UNKNOWN));
            }
        }
        for (int group : outside(0, 3)) {
            list.add(new Call("share", group, 1, 0, UNKNOWN));
            list.add(new Call("share", group, 0, 0, UNKNOWN));
        }
        for (int k : outside(0, x.count(3) - 1)) {
            list.add(new Call("kept", k, 0, 0, UNKNOWN));
            list.add(new Call("kept", k, 5, 0, UNKNOWN));
        }
        outsideOfAll(list);
        for (int side = 0; side < 2; side++) {
            outsideOfSide(list, side);
            notNow(list, x, side, copied);
        }
        for (int k = 0; k < x.count(3); k++) {
            outsides(list, "kept", k, outside(0, 4));
        }
        notNow(list, x);
        return list;
    }

    private static void unknownSide(List<Call> list, int side) {
        list.add(new Call("offer", side, 1, 1, UNKNOWN));
        list.add(new Call("offer", side, 0, 1, UNKNOWN));
        list.add(new Call("offer", side, 1, 16, UNKNOWN));
        for (String name : new String[] {"secret", "say", "alter", "copy", "inject", "side", "message"}) {
            for (int b : new int[] {1, -1, 1000, MAX}) {
                list.add(new Call(name, side, b, 1, UNKNOWN));
            }
        }
        for (String name : new String[] {"step", "update", "fresh", "drop"}) {
            list.add(new Call(name, side, 0, 0, UNKNOWN));
        }
    }

    private static void outsideOfAll(List<Call> list) {
        for (int v : outside(0, 255)) {
            list.add(new Call("type", v, 0, 0, OUTSIDE));
        }
        for (int v : outside(0, 3)) {
            list.add(new Call("guess", v, 0, 0, OUTSIDE));
        }
        for (int v : outsideWide(-1, 999)) {
            list.add(new Call("early", v, 0, 0, OUTSIDE));
        }
        for (int v : outside(0, 99)) {
            list.add(new Call("ticket", v, 0, 0, OUTSIDE));
        }
        for (int v : outside(1, 99)) {
            list.add(new Call("pass", v, 0, 0, OUTSIDE));
        }
        for (int v : outside(0, 4)) {
            list.add(new Call("held", v, 0, 0, OUTSIDE));
        }
        for (int v : outside(0, 12)) {
            list.add(new Call("count", v, 0, 0, OUTSIDE));
        }
        for (int group = 0; group < 4; group++) {
            outsides(list, "share", group, outsideWide(1, 999));
        }
    }

    private static void outsides(List<Call> list, String name, int a, int[] values) {
        for (int v : values) {
            list.add(new Call(name, a, v, 1, OUTSIDE));
        }
    }

    private static void outsideOfSide(List<Call> list, int side) {
        outsides(list, "offer", side, outside(1, 7));
        for (int groups : outside(1, 15)) {
            list.add(new Call("offer", side, 1, groups, OUTSIDE));
        }
        outsides(list, "secret", side, outsideWide(1, 999));
        outsides(list, "say", side, outsideWide(0, 999));
        outsides(list, "alter", side, outside(0, 8));
        outsides(list, "side", side, outside(0, 11));
        outsides(list, "message", side, outside(0, 8));
    }

    private static void notNow(List<Call> list, ToyGreeting x, int side, int[] copied) {
        int ahead = x.count(1 + side);
        if (ahead == 0) {
            for (String name : new String[] {"step", "drop"}) {
                list.add(new Call(name, side, 0, 0, NOT));
            }
            for (int i = 0; i < 9; i++) {
                list.add(new Call("alter", side, i, 1, NOT));
                list.add(new Call("message", side, i, 0, NOT));
            }
            for (int place = 0; place < 4; place++) {
                list.add(new Call("copy", side, place, 0, NOT));
            }
        }
        for (int place = 0; place < 4; place++) {
            int there = place;
            if (Arrays.stream(copied).noneMatch(p -> p == there)) {
                list.add(new Call("inject", side, place, 0, NOT));
            } else if (ahead == 8) {
                list.add(new Call("inject", side, place, 0, FULL));
            }
        }
        if (x.side(side, 0) != JOINED) {
            list.add(new Call("say", side, 0, 0, NOT));
            list.add(new Call("say", side, 999, 0, NOT));
            list.add(new Call("update", side, 0, 0, NOT));
        }
    }

    private static void notNow(List<Call> list, ToyGreeting x) {
        if (x.side(C, 0) != IDLE) {
            list.add(new Call("hello", 0, 0, 0, NOT));
        }
        if (x.side(S, 0) != JOINED || x.side(S, 3) != 3) {
            list.add(new Call("ticket", 0, 0, 0, NOT));
            list.add(new Call("ticket", 99, 0, 0, NOT));
        }
        if (x.held(0) == NOT) {
            list.add(new Call("forget", 0, 0, 0, NOT));
            for (int what = 0; what < 5; what++) {
                list.add(new Call("held", what, 0, 0, NOT));
            }
        }
        if (x.fault() != NONE) {
            list.add(new Call("settings", 0, 0, 0, NOT));
        }
        if (x.count(11) == 200) {
            list.add(new Call("type", 0, 0, 0, FULL));
            list.add(new Call("type", 255, 0, 0, FULL));
        }
    }

    // ---- that nothing changes

    private static void refuse(String state, Call call) {
        ToyGreeting x = in(state);
        ToyGreeting twin = in(state);
        calls = 250;
        for (int i = 0; i < 2; i++) {
            due(told(call), RandomTest.answer(x, call.name, call.a, call.b, call.c), call.due);
        }
        refused.add(call.name + " " + call.due);
        sameEverAfter(told(call), x, twin);
        due("no more than 512 calls", calls <= MOST_CALLS ? 1 : 0, 1);
    }

    private static String told(Call call) {
        return call.name + "(" + call.a + ", " + call.b + ", " + call.c + ")";
    }

    private static void same(String behind, ToyGreeting x, ToyGreeting twin, String name, int... given) {
        int[] a = Arrays.copyOf(given, 3);
        calls++;
        int want = RandomTest.answer(twin, name, a[0], a[1], a[2]);
        int got = RandomTest.answer(x, name, a[0], a[1], a[2]);
        due(name + Arrays.toString(given) + " behind " + behind, got, want);
    }

    private static void sameEverAfter(String behind, ToyGreeting x, ToyGreeting twin) {
        for (int what = 0; what < 13; what++) {
            same(behind, x, twin, "count", what);
        }
        for (int i = 0; i < 15; i++) {
            same(behind, x, twin, "kept", i / 5, i % 5);
            same(behind, x, twin, "held", i % 5);
        }
        for (int side = 0; side < 2; side++) {
            for (int what = 0; what < 12; what++) {
                same(behind, x, twin, "side", side, what);
            }
            for (int i = 0; i < 9; i++) {
                same(behind, x, twin, "message", side, i);
            }
        }
        sameText(behind, x, twin);
        sameGreeting(behind, x, twin);
        sameOnTheWay(behind, x, twin);
        sameOffers(behind, x, twin);
    }

    private static void sameText(String behind, ToyGreeting x, ToyGreeting twin) {
        same(behind, x, twin, "fault");
        same(behind, x, twin, "early", 9);
        same(behind, x, twin, "guess", 0);
        same(behind, x, twin, "type", '3');
        same(behind, x, twin, "settings");
        same(behind, x, twin, "erase");
        same(behind, x, twin, "guess", 3);
        same(behind, x, twin, "early", 8);
    }

    /** What is not told by a call shows in how the greeting goes on, and in the next letters. */
    private static void sameGreeting(String behind, ToyGreeting x, ToyGreeting twin) {
        for (int i = 0; i < 3; i++) {
            same(behind, x, twin, "step", C);
            same(behind, x, twin, "step", S);
        }
        for (int side = 0; side < 2; side++) {
            same(behind, x, twin, "say", side, 0);
            same(behind, x, twin, "update", side);
            for (int what = 0; what < 8; what++) {
                same(behind, x, twin, "side", side, what);
            }
        }
        same(behind, x, twin, "ticket", 3);
        same(behind, x, twin, "count", 12);
    }

    private static void sameOnTheWay(String behind, ToyGreeting x, ToyGreeting twin) {
        for (int side = 0; side < 2; side++) {
            for (int i = 0; i < 8; i++) {
                if (twin.count(1 + side) > 0) {
                    same(behind, x, twin, "message", side, 1);
                    same(behind, x, twin, "message", side, 2);
                    same(behind, x, twin, "drop", side);
                }
            }
            same(behind, x, twin, "count", 1 + side);
        }
        for (int place = 0; place < 4; place++) {
            same(behind, x, twin, "inject", C, place);
            for (int i = 0; i < 3; i++) {
                same(behind, x, twin, "message", C, i);
            }
            same(behind, x, twin, "drop", C);
        }
    }

    private static void sameOffers(String behind, ToyGreeting x, ToyGreeting twin) {
        same(behind, x, twin, "fresh", C);
        same(behind, x, twin, "hello");
        for (int i = 0; i < 9; i++) {
            same(behind, x, twin, "message", S, i);
        }
        for (int group = 0; group < 4; group++) {
            same(behind, x, twin, "offer", C, 7, 1 << group);
            same(behind, x, twin, "fresh", C);
            same(behind, x, twin, "fresh", S);
            same(behind, x, twin, "drop", S);
            same(behind, x, twin, "hello");
            same(behind, x, twin, "copy", S, 0);
            same(behind, x, twin, "step", S);
            same(behind, x, twin, "side", S, 1);
            same(behind, x, twin, "inject", S, 0);
        }
        same(behind, x, twin, "offer", S, 7, 15);
        same(behind, x, twin, "secret", C, 1);
        same(behind, x, twin, "secret", S, 1);
        same(behind, x, twin, "forget");
        same(behind, x, twin, "pass", 1);
    }

    // ---- which refusal comes first

    private static void severalThatFit() {
        name("of several that fit the one that the call names first");
        ToyGreeting x = new ToyGreeting();
        due("step: UNKNOWN, NOT", x.step(2), UNKNOWN);
        due("offer: UNKNOWN, OUTSIDE", x.offer(2, 8, 16), UNKNOWN);
        due("secret: UNKNOWN, OUTSIDE", x.secret(-1, 0), UNKNOWN);
        due("ticket: OUTSIDE, NOT", x.ticket(100), OUTSIDE);
        due("say: UNKNOWN, OUTSIDE, NOT", x.say(2, 1000), UNKNOWN);
        due("say: UNKNOWN, NOT", x.say(2, 5), UNKNOWN);
        due("say: OUTSIDE, NOT", x.say(0, 1000), OUTSIDE);
        due("update: UNKNOWN, NOT", x.update(2), UNKNOWN);
        due("alter: UNKNOWN, OUTSIDE, NOT", x.alter(2, 9, 0), UNKNOWN);
        due("alter: UNKNOWN, NOT", x.alter(2, 0, 0), UNKNOWN);
        due("alter: OUTSIDE, NOT", x.alter(1, 9, 0), OUTSIDE);
        due("drop: UNKNOWN, NOT", x.drop(2), UNKNOWN);
        due("copy: UNKNOWN (side), NOT", x.copy(2, 0), UNKNOWN);
        due("copy: UNKNOWN (place), NOT", x.copy(0, 4), UNKNOWN);
        due("inject: UNKNOWN (side), NOT", x.inject(2, 0), UNKNOWN);
        due("inject: UNKNOWN (place), NOT", x.inject(0, 4), UNKNOWN);
        due("side: UNKNOWN, OUTSIDE", x.side(2, 12), UNKNOWN);
        due("message: UNKNOWN, OUTSIDE, NOT", x.message(2, 9), UNKNOWN);
        due("message: UNKNOWN, NOT", x.message(2, 0), UNKNOWN);
        due("message: OUTSIDE, NOT", x.message(0, 9), OUTSIDE);
        due("kept: UNKNOWN, OUTSIDE", x.kept(0, 5), UNKNOWN);
        due("held: OUTSIDE, NOT", x.held(5), OUTSIDE);
        due("share: UNKNOWN, OUTSIDE", x.share(4, 1000), UNKNOWN);
        ToyGreeting full = in("full");
        due("type: OUTSIDE, FULL", full.type(256), OUTSIDE);
        due("type: FULL", full.type(255), FULL);
        for (int side = 0; side < 2; side++) {
            due("inject: UNKNOWN (place), FULL", full.inject(side, 4), UNKNOWN);
            due("inject: NOT, FULL", full.inject(side, 1), NOT);
            due("inject: FULL", full.inject(side, 0), FULL);
        }
        due("inject: UNKNOWN (side), FULL", full.inject(2, 0), UNKNOWN);
    }
}
