/** Promises 9 to 13, 28 and 29: DAYS, HALTS, GRAVEL, PULLED, undone; SLOTS. */
public final class ActsTest {
    private static final Check CHECK = new Check();

    public static void main(String[] args) {
        day();
        thicket();
        healing();
        halt();
        gravel();
        pull();
        undo();
        fullRow();
        keep();
        again();
        CHECK.end("ActsTest");
    }

    /** Days of a new army of the text, one by one. */
    private static void days(String text, int... miles) {
        LameLead x = Check.of(text);
        int mile = 0;
        for (int i = 0; i < miles.length; i++) {
            CHECK.due(text + ": day " + i, x.day(), miles[i]);
            mile += miles[i];
            CHECK.due(text + ": mile behind day " + i, x.about(3), mile);
            CHECK.due(text + ": days behind day " + i, x.about(4), i + 1);
        }
    }

    private static void day() {
        days("AS90M700", 7, 2, 0, 0);
        days("AS90M900M400", 4, 4, 1);
        days("AS91M500", 2, 2, 2, 2, 1, 0);
        days("AS31M100", 1, 1, 1);
        days("AS31M900", 3, 0);
        days("AS32M900", 1, 1, 1, 0);
        days("AS10S91M500", 5, 2, 2, 1);
        days("AS12S90M700", 1, 7, 2);
        days("AS21S22S90M600", 3, 1, 6, 3);
        days("AS90", 0, 0);
        days("A", 0, 0);
        days("AM500", 0, 0);
    }

    private static void thicket() {
        LameLead x = Check.of("AS93S90M500M600");
        CHECK.due("leader goes 5", x.day(), 5);
        CHECK.due("and picks up a thorn", x.man(0, 2), 1);
        CHECK.due("no other does", x.man(1, 2), 0);
        CHECK.due("goes 3", x.day(), 3);
        CHECK.due("two thorns", x.man(0, 2), 2);
        CHECK.due("goes 1", x.day(), 1);
        CHECK.due("a third one, and one heals", x.man(0, 2), 2);
        CHECK.due("behind the thicket", x.day(), 1);
        CHECK.due("no thorn there", x.man(0, 2), 2);
        LameLead into = Check.of("AS10S93M500");
        into.day();
        CHECK.due("what begins on hard ground picks up none", into.man(0, 2), 0);
        LameLead out = Check.of("AS13S90M500");
        out.day();
        CHECK.due("what begins in a thicket does", out.man(0, 2), 1);
        LameLead full = Check.of("AS93M109");
        full.day();
        CHECK.due("9 at most", full.man(0, 2), 9);
        full.day();
        full.day();
        CHECK.due("9 at most ahead of healing", full.man(0, 2), 8);
        LameLead passed = Check.of("AS93S93M700M630");
        CHECK.due("man 1 leads", passed.about(5), 1);
        passed.day();
        CHECK.due("man 1 has it", passed.man(1, 2), 1);
        CHECK.due("man 0 has none", passed.man(0, 2), 0);
        LameLead there = Check.of("AS13M500");
        there.day();
        there.day();
        CHECK.due("no thorn when there", there.man(0, 2), 1);
    }

    private static void healing() {
        LameLead x = Check.of("AS90M103M113M123M133M100");
        int[] plain = {3, 3, 2, 2, 2, 1, 1, 1, 0, 0, 0, 0};
        for (int i = 0; i < plain.length; i++) {
            x.day();
            for (int man = 0; man < 3; man++) {
                CHECK.due("healing of man " + man + ", day " + i, x.man(man, 2), plain[i]);
            }
            CHECK.due("old ones never heal", x.man(3, 2), 3);
            CHECK.due("0 at least", x.man(4, 2), 0);
        }
    }

    private static void halt() {
        LameLead x = Check.of("AS90M103M113M121M133M100");
        CHECK.due("halt", x.halt(), 7);
        CHECK.due("halt", x.halt(), 5);
        CHECK.due("day 2 at a halt heals once", x.halt(), 3);
        CHECK.due("only old ones' are left", x.halt(), 3);
        CHECK.due("nobody goes", x.about(3), 0);
        CHECK.due("days", x.about(4), 4);
        CHECK.due("acts", x.about(9), 4);
        CHECK.due("nobody there", new LameLead().halt(), 0);
        LameLead thorns = Check.of("AS93M500");
        CHECK.due("no thorn at a halt in a thicket", thorns.halt(), 0);
    }

    private static void gravel() {
        LameLead x = Check.of("AS90M900M538");
        CHECK.due("gravel(0)", x.gravel(0), 1);
        CHECK.due("gravel(0)", x.gravel(0), 2);
        CHECK.due("gravel(1)", x.gravel(1), 9);
        CHECK.due("day stays", x.about(4), 0);
        CHECK.due("acts", x.about(9), 3);
        String ahead = Check.look(x);
        CHECK.due("gravel at 9", x.gravel(1), LameLead.FULL);
        CHECK.due("gravel(2)", x.gravel(2), LameLead.UNKNOWN);
        CHECK.due("gravel(-1)", x.gravel(-1), LameLead.UNKNOWN);
        CHECK.due("gravel(max)", x.gravel(Integer.MAX_VALUE), LameLead.UNKNOWN);
        CHECK.isSo("what is refused changes nothing", ahead.equals(Check.look(x)));
        CHECK.due("speed", x.man(0, 3), 5);
    }

    private static void pull() {
        LameLead x = Check.of("AS90M902M531");
        CHECK.due("pull(0)", x.pull(0), 1);
        CHECK.due("pull(0)", x.pull(0), 0);
        CHECK.due("old ones' can be pulled", x.pull(1), 0);
        CHECK.due("acts", x.about(9), 3);
        String ahead = Check.look(x);
        CHECK.due("pull of none", x.pull(0), LameLead.LATE);
        CHECK.due("pull(2)", x.pull(2), LameLead.UNKNOWN);
        CHECK.due("pull(-1)", x.pull(-1), LameLead.UNKNOWN);
        CHECK.due("pull(min)", x.pull(Integer.MIN_VALUE), LameLead.UNKNOWN);
        CHECK.isSo("what is refused changes nothing", ahead.equals(Check.look(x)));
    }

    private static void undo() {
        LameLead x = Check.of("AS33S90M602M431");
        String[] seen = new String[5];
        seen[0] = Check.look(x);
        x.day();
        seen[1] = Check.look(x);
        x.halt();
        seen[2] = Check.look(x);
        x.gravel(0);
        seen[3] = Check.look(x);
        x.pull(1);
        seen[4] = Check.look(x);
        x.day();
        for (int left = 4; left >= 0; left--) {
            CHECK.due("undo", x.undo(), left);
            CHECK.isSo("as it was ahead of act " + left, seen[left].equals(Check.look(x)));
        }
        CHECK.due("undo of none", x.undo(), LameLead.LATE);
        CHECK.isSo("what is refused changes nothing", seen[0].equals(Check.look(x)));
        x.gravel(0);
        CHECK.due("acts anew", x.about(9), 1);
    }

    private static void fullRow() {
        LameLead x = Check.of("AS90S90M100");
        for (int i = 0; i < 17; i++) {
            x.day();
        }
        CHECK.due("14 at most", x.about(9), 14);
        for (int left = 13; left >= 0; left--) {
            CHECK.due("undo", x.undo(), left);
        }
        CHECK.due("undo of what is forgotten", x.undo(), LameLead.LATE);
        CHECK.due("three days stay", x.about(3), 3);
        CHECK.due("three days stay", x.about(4), 3);
    }

    private static void keep() {
        LameLead x = Check.of("AS90M100");
        x.day();
        CHECK.due("keep(0)", x.keep(0), 1);
        x.halt();
        CHECK.due("keep(1)", x.keep(1), 2);
        CHECK.due("keep(2)", x.keep(2), LameLead.UNKNOWN);
        CHECK.due("keep(-1)", x.keep(-1), LameLead.UNKNOWN);
        CHECK.due("keep is no act", x.about(9), 2);
        CHECK.due("keep of nobody", new LameLead().keep(0), 0);
    }

    private static void again() {
        LameLead x = Check.of("AS33S90M602M431");
        CHECK.due("none kept", x.again(0), LameLead.LATE);
        x.day();
        x.gravel(1);
        x.keep(0);
        int mile = x.about(3);
        int first = x.man(0, 2);
        int second = x.man(1, 2);
        x.day();
        x.halt();
        x.pull(1);
        x.keep(1);
        CHECK.due("again(0)", x.again(0), 1);
        CHECK.due("mile", x.about(3), mile);
        CHECK.due("thorns of 0", x.man(0, 2), first);
        CHECK.due("thorns of 1", x.man(1, 2), second);
        CHECK.due("no acts", x.about(9), 0);
        CHECK.due("no undo", x.undo(), LameLead.LATE);
        x.day();
        CHECK.due("again(1)", x.again(1), 3);
        CHECK.due("again(0) twice", x.again(0), 1);
        x.day();
        String ahead = Check.look(x);
        CHECK.due("again(2)", x.again(2), LameLead.UNKNOWN);
        CHECK.due("again(-1)", x.again(-1), LameLead.UNKNOWN);
        CHECK.isSo("what is refused changes nothing", ahead.equals(Check.look(x)));
        x.keep(0);
        x.halt();
        CHECK.due("kept anew", x.again(0), 2);
        LameLead nobody = new LameLead();
        nobody.keep(1);
        CHECK.due("other slot", nobody.again(0), LameLead.LATE);
        nobody.day();
        CHECK.due("nobody goes on", nobody.again(1), 0);
    }
}
