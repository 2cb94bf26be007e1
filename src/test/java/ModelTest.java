import java.util.ArrayList;
import java.util.List;
import java.util.Random;

/** Long runs of calls by chance (always the same ones), each answer held against the slow model. */
public final class ModelTest {
    private static final Check CHECK = new Check();
    private static final int RUNS = 1500;
    private static final int CALLS = 120;

    private final Random random;
    private final LameLead lead = new LameLead();
    private final Model model = new Model();
    private final List<String> told = new ArrayList<>();
    private boolean right = true;

    private ModelTest(long seed) {
        random = new Random(seed);
    }

    public static void main(String[] args) {
        for (int run = 0; run < RUNS; run++) {
            ModelTest test = new ModelTest(run);
            test.go();
            CHECK.isSo("run " + run, test.right);
        }
        CHECK.end("ModelTest");
    }

    private void go() {
        if (random.nextInt(10) > 0) {
            writeArmy();
        }
        for (int i = 0; i < CALLS && right; i++) {
            call();
        }
    }

    private void same(String call, long got, long want) {
        told.add(call);
        if (got != want) {
            right = false;
            System.out.println(told + " answered " + got + ", the model " + want + "; " + model);
        }
    }

    private int upTo(int most) {
        return random.nextInt(most + 1);
    }

    /** Now and then a little or far outside of 0 .. most, or at its edges. */
    private int about(int most) {
        switch (random.nextInt(80)) {
            case 0: return random.nextInt();
            case 1: return random.nextBoolean() ? Integer.MIN_VALUE : Integer.MAX_VALUE;
            case 2, 3: return random.nextBoolean() ? -1 : most + 1;
            case 4, 5, 6, 7: return random.nextBoolean() ? 0 : most;
            default: return upTo(most);
        }
    }

    private String randomText() {
        StringBuilder text = new StringBuilder("A");
        int stretches = upTo(8);
        int men = random.nextInt(4) == 0 ? upTo(5) : 2 + upTo(3);
        int ground = upTo(8);
        int kind = upTo(8);
        int thorns = 1 + upTo(8);
        while (stretches + men > 0) {
            if (random.nextInt(stretches + men) < stretches) {
                stretches--;
                text.append('S').append(1 + upTo(8)).append(ground > 3 ? upTo(3) : ground);
            } else {
                men--;
                text.append('M').append(1 + upTo(8)).append(kind > 3 ? upTo(3) : kind).append(upTo(thorns));
            }
        }
        return text.toString();
    }

    private void write(int letter) {
        same("write(" + letter + ")", lead.write(letter), model.write(letter));
    }

    private void writeArmy() {
        same("wipe()", lead.wipe(), model.wipe());
        String text = randomText();
        for (int i = 0; i < text.length(); i++) {
            write(random.nextInt(400) == 0 ? "AMS09:/4".charAt(upTo(7)) : text.charAt(i));
        }
        same("fault()", lead.fault(), model.fault());
        same("army()", lead.army(), model.army());
    }

    private void writeSome() {
        if (random.nextInt(3) == 0) {
            same("wipe()", lead.wipe(), model.wipe());
        }
        for (int i = upTo(10); i >= 0; i--) {
            write(random.nextInt(12) == 0 ? about(255) : "AAMMSS0123459".charAt(upTo(12)));
            same("fault()", lead.fault(), model.fault());
        }
    }

    private void call() {
        int which = random.nextInt(100);
        if (which < 1) {
            writeArmy();
        } else if (which < 3) {
            writeSome();
        } else if (which < 4) {
            same("army()", lead.army(), model.army());
        } else if (which < 44) {
            act();
        } else if (which < 56) {
            look();
        } else if (which < 80) {
            ahead();
        } else {
            chance();
        }
    }

    private void act() {
        int man = about(4);
        int slot = about(1);
        switch (random.nextInt(16)) {
            case 0, 1, 2, 3, 4 -> same("day()", lead.day(), model.day());
            case 5 -> same("halt()", lead.halt(), model.halt());
            case 6, 7, 8, 9 -> same("gravel(" + man + ")", lead.gravel(man), model.gravel(man));
            case 10, 11 -> same("pull(" + man + ")", lead.pull(man), model.pull(man));
            case 12, 13 -> same("undo()", lead.undo(), model.undo());
            case 14 -> same("keep(" + slot + ")", lead.keep(slot), model.keep(slot));
            default -> same("again(" + slot + ")", lead.again(slot), model.again(slot));
        }
    }

    private void look() {
        int man = about(4);
        int stretch = about(7);
        int what = about(3);
        switch (random.nextInt(3)) {
            case 0 -> {
                int of = about(11);
                same("about(" + of + ")", lead.about(of), model.about(of));
            }
            case 1 -> same("man(" + man + ", " + what + ")", lead.man(man, what), model.man(man, what));
            default -> same("stretch(" + stretch + ", " + what + ")", lead.stretch(stretch, what),
                model.stretch(stretch, what));
        }
    }

    private void ahead() {
        int man = about(4);
        int what = about(1);
        int n = about(40);
        boolean upper = random.nextBoolean();
        switch (random.nextInt(7)) {
            case 0 -> same("later(" + n + ", " + what + ")", lead.later(n, what), model.later(n, what));
            case 1 -> same("comes()", lead.comes(), model.comes());
            case 2 -> same("leads(" + man + ")", lead.leads(man), model.leads(man));
            case 3 -> same("cure(" + what + ")", lead.cure(what), model.cure(what));
            case 4 -> {
                int days = about(20);
                same("plan(" + days + ", " + what + ")", lead.plan(days, what), model.plan(days, what));
            }
            case 5 -> judge();
            default -> same("share(" + man + ", " + upper + ")", lead.share(man, upper), model.share(man, upper));
        }
    }

    private void judge() {
        int n = random.nextInt(20) == 0 ? about(5) : 1 + upTo(3);
        long row = 0;
        for (int i = 0; i < n && i < 5; i++) {
            row = 1000 * row + doing();
        }
        if (random.nextInt(40) == 0) {
            row = random.nextBoolean() ? random.nextLong() : row - 1000;
        }
        same("judge(" + n + ", " + row + ")", lead.judge(n, row), model.judge(n, row));
    }

    private int doing() {
        int man = upTo(4);
        switch (random.nextInt(9)) {
            case 0: return 0;
            case 1: return 100;
            case 2: return 200 + man;
            case 3: return 300 + man;
            case 4: return 400 + Math.max(0, Math.min(9, model.about(5)));
            case 5: return 500 + 10 * man + Math.max(0, Math.min(9, model.man(man, 2) + upTo(2) - 1));
            case 6: return 600 + Math.min(99, model.about(3) + upTo(3));
            case 7: return random.nextInt(3) == 0 ? random.nextInt(1000) : 0;
            default: return random.nextInt(3) == 0 ? 100 * upTo(7) + man : 0;
        }
    }

    private void chance() {
        int what = about(1);
        int t = about(3);
        int v = 1 + about(8);
        int one = about(4);
        int other = about(4);
        boolean upper = random.nextBoolean();
        switch (random.nextInt(8)) {
            case 0 -> same("attempt(" + t + ", " + v + ", " + what + ")", lead.attempt(t, v, what),
                model.attempt(t, v, what));
            case 1 -> {
                if (random.nextInt(4) == 0) {
                    same("unattempt()", lead.unattempt(), model.unattempt());
                }
            }
            case 2 -> same("paces(" + what + ")", lead.paces(what), model.paces(what));
            case 3, 4 -> same("rests(" + one + ", " + other + ", " + what + ")", lead.rests(one, other, what),
                model.rests(one, other, what));
            case 5 -> {
                int n = about(20);
                int x = about(10);
                same("thorny(" + n + ", " + x + ", " + upper + ")", lead.thorny(n, x, upper),
                    model.thorny(n, x, upper));
            }
            case 6 -> {
                long seed = random.nextLong();
                same("seed(" + seed + ")", lead.seed(seed), model.seed(seed));
            }
            default -> {
                int m = 1 + about(29);
                same("campaigns(" + m + ")", lead.campaigns(m), model.campaigns(m));
            }
        }
    }
}
