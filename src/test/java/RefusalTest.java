import java.util.ArrayList;
import java.util.List;
import java.util.function.ToLongFunction;

/**
 * "REFUSALS ..: Of several what is told first. What is refused changes nothing.", "In what follows nothing is
 * changed", and "(Nothing changes but THE SEED.)": each call is made on one of two objects that hold the same,
 * and nothing that can be seen tells them apart behind it.
 */
public final class RefusalTest {
    private static final Check CHECK = new Check();
    private static final int MIN = Integer.MIN_VALUE;
    private static final int MAX = Integer.MAX_VALUE;
    private static final int STATES = 7;

    private record Call(String name, ToLongFunction<LameLead> made, long due) { }

    public static void main(String[] args) {
        statesAreApart();
        refusedInEachState();
        refusedByWhatTheyHold();
        textIsAsItWas();
        questions();
        campaigns();
        CHECK.end("RefusalTest");
    }

    private static LameLead state(int which) {
        switch (which) {
            case 0: return new LameLead();
            case 1: return Check.of("A");
            case 2: return Check.of("AS93S92");
            case 3: return full();
            case 4: return there();
            case 5: return cutShort();
            default: return onTheWay();
        }
    }

    /** The full text, men, stretches, acts, tried and slots, with 9 thorns and with none. */
    private static LameLead full() {
        LameLead x = Check.of("AS93S92S91S90S93S92S91S90M509M410M329M238M700");
        for (int i = 0; i < 3; i++) {
            x.write('S');
            x.day();
        }
        x.keep(0);
        for (int i = 0; i < 7; i++) {
            x.day();
            x.gravel(4);
        }
        x.halt();
        x.gravel(3);
        x.keep(1);
        for (int t = 0; t < 6; t++) {
            x.attempt(t % 4, 9 - t, 1);
        }
        x.seed(Long.MIN_VALUE);
        return x;
    }

    private static LameLead there() {
        LameLead x = Check.of("AS13M939M900M801");
        x.keep(1);
        x.day();
        x.day();
        x.seed(-1);
        x.attempt(0, 4, 0);
        return x;
    }

    private static LameLead cutShort() {
        LameLead x = Check.of("AS90S91M501M632");
        x.day();
        x.halt();
        x.keep(0);
        Check.tell(x, "AS90M5");
        x.seed(Long.MAX_VALUE);
        return x;
    }

    private static LameLead onTheWay() {
        LameLead x = Check.of("AS93S92S91S90M602M511M823M937M700");
        x.day();
        x.gravel(4);
        x.pull(2);
        x.keep(0);
        x.day();
        x.attempt(1, 1, 0);
        x.attempt(2, 5, 1);
        x.seed(5);
        return x;
    }

    private static void noTrace(int which, Call call) {
        LameLead x = state(which);
        CHECK.due("state " + which + ": " + call.name, call.made.applyAsLong(x), call.due);
        CHECK.isSo("state " + which + " is as it was behind " + call.name, Trace.of(x).equals(Trace.of(state(which))));
    }

    /** The states differ by what can be seen, so that a trace is one. */
    private static void statesAreApart() {
        for (int one = 0; one < STATES; one++) {
            CHECK.isSo("a trace is the same again", Trace.of(state(one)).equals(Trace.of(state(one))));
            for (int other = 2; other < one; other++) {
                CHECK.isSo(one + " and " + other, !Trace.of(state(one)).equals(Trace.of(state(other))));
            }
        }
    }

    /** What is refused whatever the object holds. */
    private static List<Call> alwaysRefused() {
        List<Call> calls = new ArrayList<>();
        for (int bad : new int[] {MIN, -1, 256, MAX}) {
            calls.add(new Call("write(" + bad + ")", x -> x.write(bad), LameLead.BAD));
        }
        for (int bad : new int[] {MIN, -1, 12, MAX}) {
            calls.add(new Call("about(" + bad + ")", x -> x.about(bad), LameLead.BAD));
        }
        for (int man : new int[] {MIN, -1, 5, MAX}) {
            calls.add(new Call("man(" + man + ", 0)", x -> x.man(man, 0), LameLead.UNKNOWN));
            calls.add(new Call("man(" + man + ", 4)", x -> x.man(man, 4), LameLead.UNKNOWN));
            calls.add(new Call("gravel(" + man + ")", x -> x.gravel(man), LameLead.UNKNOWN));
            calls.add(new Call("pull(" + man + ")", x -> x.pull(man), LameLead.UNKNOWN));
            calls.add(new Call("leads(" + man + ")", x -> x.leads(man), LameLead.UNKNOWN));
            calls.add(new Call("share(" + man + ", true)", x -> x.share(man, true), LameLead.UNKNOWN));
            calls.add(new Call("share(" + man + ", false)", x -> x.share(man, false), LameLead.UNKNOWN));
            calls.add(new Call("rests(" + man + ", 0, 0)", x -> x.rests(man, 0, 0), LameLead.UNKNOWN));
            calls.add(new Call("rests(0, " + man + ", 2)", x -> x.rests(0, man, 2), LameLead.UNKNOWN));
            calls.add(new Call("rests(" + man + ", twice)", x -> x.rests(man, man, -1), LameLead.UNKNOWN));
        }
        for (int stretch : new int[] {MIN, -1, 8, MAX}) {
            calls.add(new Call("stretch(" + stretch + ", 0)", x -> x.stretch(stretch, 0), LameLead.UNKNOWN));
            calls.add(new Call("stretch(" + stretch + ", 3)", x -> x.stretch(stretch, 3), LameLead.UNKNOWN));
        }
        for (int slot : new int[] {MIN, -1, 2, MAX}) {
            calls.add(new Call("keep(" + slot + ")", x -> x.keep(slot), LameLead.UNKNOWN));
            calls.add(new Call("again(" + slot + ")", x -> x.again(slot), LameLead.UNKNOWN));
        }
        addBad(calls);
        return calls;
    }

    private static void addBad(List<Call> calls) {
        for (int what : new int[] {MIN, -1, 2, MAX}) {
            calls.add(new Call("later(0, " + what + ")", x -> x.later(0, what), LameLead.BAD));
            calls.add(new Call("cure(" + what + ")", x -> x.cure(what), LameLead.BAD));
            calls.add(new Call("plan(0, " + what + ")", x -> x.plan(0, what), LameLead.BAD));
            calls.add(new Call("attempt(0, 1, " + what + ")", x -> x.attempt(0, 1, what), LameLead.BAD));
            calls.add(new Call("paces(" + what + ")", x -> x.paces(what), LameLead.BAD));
        }
        for (int n : new int[] {MIN, -1, 41, MAX}) {
            calls.add(new Call("later(" + n + ", 0)", x -> x.later(n, 0), LameLead.BAD));
            calls.add(new Call("plan(" + n + ", 1)", x -> x.plan(n, 1), LameLead.BAD));
            calls.add(new Call("judge(" + n + ", 0)", x -> x.judge(n, 0), LameLead.BAD));
            calls.add(new Call("attempt(" + n + ", 1, 1)", x -> x.attempt(n, 1, 1), LameLead.BAD));
            calls.add(new Call("attempt(0, " + n + ", 1)", x -> x.attempt(0, n, 1), LameLead.BAD));
            calls.add(new Call("thorny(" + n + ", 5, true)", x -> x.thorny(n, 5, true), LameLead.BAD));
            calls.add(new Call("thorny(5, " + n + ", false)", x -> x.thorny(5, n, false), LameLead.BAD));
            calls.add(new Call("campaigns(" + n + ")", x -> x.campaigns(n), LameLead.BAD));
        }
        for (long row : new long[] {Long.MIN_VALUE, -1, 1_000_000_000_000L, Long.MAX_VALUE}) {
            calls.add(new Call("judge(4, " + row + ")", x -> x.judge(4, row), LameLead.BAD));
        }
        calls.add(new Call("plan(21, 0)", x -> x.plan(21, 0), LameLead.BAD));
        calls.add(new Call("judge(0, 0)", x -> x.judge(0, 0), LameLead.BAD));
        calls.add(new Call("judge(5, 0)", x -> x.judge(5, 0), LameLead.BAD));
        calls.add(new Call("judge(1, 1000)", x -> x.judge(1, 1000), LameLead.BAD));
        calls.add(new Call("attempt(4, 1, 0)", x -> x.attempt(4, 1, 0), LameLead.BAD));
        calls.add(new Call("attempt(0, 0, 0)", x -> x.attempt(0, 0, 0), LameLead.BAD));
        calls.add(new Call("attempt(0, 10, 0)", x -> x.attempt(0, 10, 0), LameLead.BAD));
        calls.add(new Call("thorny(21, 0, true)", x -> x.thorny(21, 0, true), LameLead.BAD));
        calls.add(new Call("thorny(0, 11, true)", x -> x.thorny(0, 11, true), LameLead.BAD));
        calls.add(new Call("campaigns(0)", x -> x.campaigns(0), LameLead.BAD));
        calls.add(new Call("campaigns(31)", x -> x.campaigns(31), LameLead.BAD));
    }

    private static void refusedInEachState() {
        for (Call call : alwaysRefused()) {
            for (int which = 0; which < STATES; which++) {
                noTrace(which, call);
            }
        }
    }

    /** LATE and FULL, and who is not there, by what the object holds. */
    private static void refusedByWhatTheyHold() {
        for (int which : new int[] {0, 3, 5}) {
            noTrace(which, new Call("army()", LameLead::army, LameLead.LATE));
        }
        for (int which : new int[] {0, 1, 2}) {
            noTrace(which, new Call("undo()", LameLead::undo, LameLead.LATE));
            noTrace(which, new Call("man(0, 9)", x -> x.man(0, 9), LameLead.UNKNOWN));
            noTrace(which, new Call("gravel(0)", x -> x.gravel(0), LameLead.UNKNOWN));
            noTrace(which, new Call("pull(0)", x -> x.pull(0), LameLead.UNKNOWN));
            noTrace(which, new Call("leads(0)", x -> x.leads(0), LameLead.UNKNOWN));
            noTrace(which, new Call("share(0, true)", x -> x.share(0, true), LameLead.UNKNOWN));
            noTrace(which, new Call("rests(0, 1, 0)", x -> x.rests(0, 1, 0), LameLead.UNKNOWN));
            noTrace(which, new Call("rests(0, 0, 9)", x -> x.rests(0, 0, 9), LameLead.UNKNOWN));
        }
        for (int which : new int[] {0, 1, 2, 4}) {
            noTrace(which, new Call("again(0)", x -> x.again(0), LameLead.LATE));
        }
        for (int which : new int[] {0, 1, 2, 5, 6}) {
            noTrace(which, new Call("again(1)", x -> x.again(1), LameLead.LATE));
        }
        for (int which : new int[] {0, 1}) {
            noTrace(which, new Call("stretch(0, 9)", x -> x.stretch(0, 9), LameLead.UNKNOWN));
        }
        noTrace(2, new Call("stretch(2, 0)", x -> x.stretch(2, 0), LameLead.UNKNOWN));
        noTrace(2, new Call("stretch(1, 3)", x -> x.stretch(1, 3), LameLead.BAD));
        noTrace(3, new Call("write('A')", x -> x.write('A'), LameLead.FULL));
        noTrace(3, new Call("write(0)", x -> x.write(0), LameLead.FULL));
        noTrace(3, new Call("attempt(0, 9, 0)", x -> x.attempt(0, 9, 0), LameLead.FULL));
        noTrace(3, new Call("gravel(3)", x -> x.gravel(3), LameLead.FULL));
        noTrace(4, new Call("gravel(0)", x -> x.gravel(0), LameLead.FULL));
        noTrace(4, new Call("pull(1)", x -> x.pull(1), LameLead.LATE));
        noTrace(4, new Call("pull(3)", x -> x.pull(3), LameLead.UNKNOWN));
        noTrace(4, new Call("rests(2, 2, 0)", x -> x.rests(2, 2, 0), LameLead.BAD));
        noTrace(4, new Call("man(2, 4)", x -> x.man(2, 4), LameLead.BAD));
    }

    /** A refused byte is nowhere in THE TEXT: what is told behind it is an army. */
    private static void textIsAsItWas() {
        LameLead x = new LameLead();
        String text = "AS90M5";
        for (int i = 0; i < text.length(); i++) {
            x.write(-1);
            CHECK.due("byte " + i, x.write(text.charAt(i)), i + 1);
            x.write(256);
            x.army();
        }
        x.write('3');
        x.write('1');
        CHECK.due("army", x.army(), 11);
        CHECK.due("old", x.man(0, 1), 3);
        CHECK.due("his thorn", x.man(0, 2), 1);
    }

    /** Calls of which nothing is changed, taken in each state. */
    private static void questions() {
        List<ToLongFunction<LameLead>> asked = List.of(LameLead::fault, x -> x.about(5), x -> x.about(7),
            x -> x.man(0, 3), x -> x.stretch(0, 2), x -> x.later(40, 0), x -> x.later(40, 1), LameLead::comes,
            x -> x.leads(0), x -> x.leads(4), x -> x.cure(0), x -> x.cure(1), x -> x.plan(0, 0), x -> x.plan(20, 1),
            x -> x.judge(4, 0), x -> x.judge(4, 100_200_300_000L), x -> x.judge(4, 200_200_301_300L),
            x -> x.judge(1, 999), x -> x.share(0, true), x -> x.share(4, false), x -> x.paces(0), x -> x.paces(1),
            x -> x.rests(0, 1, 0), x -> x.rests(1, 0, 1), x -> x.thorny(20, 5, true), x -> x.thorny(0, 10, false));
        for (int which = 0; which < STATES; which++) {
            String due = Trace.of(state(which));
            for (int i = 0; i < asked.size(); i++) {
                LameLead x = state(which);
                long first = asked.get(i).applyAsLong(x);
                CHECK.due("question " + i + " twice in state " + which, asked.get(i).applyAsLong(x), first);
                CHECK.isSo("question " + i + " in state " + which, due.equals(Trace.of(x)));
            }
            LameLead all = state(which);
            for (ToLongFunction<LameLead> ask : asked) {
                ask.applyAsLong(all);
            }
            CHECK.isSo("all questions in state " + which, due.equals(Trace.of(all)));
        }
    }

    private static void campaigns() {
        for (int which = 0; which < STATES; which++) {
            for (int m : new int[] {1, 30}) {
                LameLead x = state(which);
                long seed = x.seed(0);
                x.campaigns(m);
                CHECK.isSo("the seed has changed", x.seed(seed) != 0);
                CHECK.isSo("nothing else in state " + which, Trace.of(x).equals(Trace.of(state(which))));
            }
        }
    }
}
