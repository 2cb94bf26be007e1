/** Promises 1 to 8: a new object, THE TEXT, THE ARMY and what is told about it. */
public final class ArmyTest {
    private static final Check CHECK = new Check();
    private static final String ALL_STRETCHES = "S10S21S32S43S50S61S72S83";
    private static final String ALL_MEN = "M900M811M722M635M509";

    public static void main(String[] args) {
        newObject();
        write();
        wipe();
        fault();
        army();
        about();
        man();
        stretch();
        CHECK.end("ArmyTest");
    }

    private static void newObject() {
        LameLead x = new LameLead();
        int[] due = {0, 0, 0, 0, 0, LameLead.NONE, 0, LameLead.NONE, 0, 0, 0, 0};
        for (int what = 0; what < due.length; what++) {
            CHECK.due("new: about(" + what + ")", x.about(what), due[what]);
        }
        CHECK.due("new: man", x.man(0, 0), LameLead.UNKNOWN);
        CHECK.due("new: stretch", x.stretch(0, 0), LameLead.UNKNOWN);
        CHECK.due("new: fault", x.fault(), 0);
        CHECK.due("new: undo", x.undo(), LameLead.LATE);
        CHECK.due("new: comes", x.comes(), 0);
        CHECK.due("new: paces", x.paces(0), 27);
        CHECK.due("new: again(0)", x.again(0), LameLead.LATE);
        CHECK.due("new: again(1)", x.again(1), LameLead.LATE);
        CHECK.due("new: seed", x.seed(7), 0);
    }

    private static void write() {
        LameLead x = new LameLead();
        CHECK.due("write(-1)", x.write(-1), LameLead.BAD);
        CHECK.due("write(256)", x.write(256), LameLead.BAD);
        CHECK.due("write(min)", x.write(Integer.MIN_VALUE), LameLead.BAD);
        CHECK.due("write(max)", x.write(Integer.MAX_VALUE), LameLead.BAD);
        CHECK.due("refused bytes", x.about(11), 0);
        CHECK.due("write(0)", x.write(0), 1);
        CHECK.due("write(255)", x.write(255), 2);
        for (int size = 3; size <= 48; size++) {
            CHECK.due("write", x.write('A'), size);
        }
        CHECK.due("write at 48", x.write('A'), LameLead.FULL);
        CHECK.due("write at 48, bad told first", x.write(256), LameLead.BAD);
        CHECK.due("bytes", x.about(11), 48);
    }

    private static void wipe() {
        LameLead x = Check.of("AS10M100");
        String ahead = x.about(0) + " " + x.about(1);
        CHECK.due("wipe", x.wipe(), 8);
        CHECK.due("wipe again", x.wipe(), 0);
        CHECK.due("bytes", x.about(11), 0);
        CHECK.due("fault", x.fault(), 0);
        CHECK.isSo("the army stays", ahead.equals(x.about(0) + " " + x.about(1)));
        CHECK.due("write", x.write('A'), 1);
    }

    private static void fault() {
        faultOf("", 0);
        faultOf("B", 0);
        faultOf("a", 0);
        faultOf("SA", 0);
        faultOf("A", LameLead.NONE);
        faultOf("AA", 1);
        faultOf("As10", 1);
        faultOf("Am100", 1);
        faultOf("A" + (char) 0, 1);
        faultOf("A" + (char) 255, 1);
        faultOf("AS", 2);
        faultOf("AS1", 3);
        faultOf("AS10", LameLead.NONE);
        faultOf("AS93", LameLead.NONE);
        faultOf("AS00", 2);
        faultOf("AS:0", 2);
        faultOf("AS14", 3);
        faultOf("AS1/", 3);
        faultOf("AS1S", 3);
        faultOf("AS100", 4);
        faultOf("AM", 2);
        faultOf("AM1", 3);
        faultOf("AM10", 4);
        faultOf("AM100", LameLead.NONE);
        faultOf("AM939", LameLead.NONE);
        faultOf("AM000", 2);
        faultOf("AM:00", 2);
        faultOf("AM140", 3);
        faultOf("AM1/0", 3);
        faultOf("AM10:", 4);
        faultOf("AM10/", 4);
        faultOf("AM100S", 6);
        faultOf("AM100S10M100", LameLead.NONE);
        faultOf("AM000S00", 2);
        faultOf("A" + ALL_STRETCHES, LameLead.NONE);
        faultOf("A" + ALL_STRETCHES + "S", 25);
        faultOf("A" + ALL_STRETCHES + "S10", 25);
        faultOf("A" + ALL_STRETCHES + "M", 26);
        faultOf("A" + ALL_MEN, LameLead.NONE);
        faultOf("A" + ALL_MEN + "M", 21);
        faultOf("A" + ALL_MEN + "M100", 21);
        faultOf("A" + ALL_MEN + "S", 22);
        faultOf("A" + ALL_STRETCHES + ALL_MEN, LameLead.NONE);
        faultOf("A" + ALL_STRETCHES + ALL_MEN + "S", 45);
        faultOf("A" + ALL_MEN + ALL_STRETCHES + "M10", 45);
    }

    private static void faultOf(String text, int due) {
        LameLead x = new LameLead();
        Check.tell(x, text);
        CHECK.due("fault of " + text, x.fault(), due);
        CHECK.due("army of " + text, x.army() == LameLead.LATE ? 1 : 0, due == LameLead.NONE ? 0 : 1);
    }

    private static void army() {
        CHECK.due("army of A", Check.of("A").about(2), 0);
        LameLead x = new LameLead();
        Check.tell(x, "A" + ALL_STRETCHES + ALL_MEN);
        CHECK.due("army", x.army(), 85);
        x.attempt(1, 2, 0);
        x.seed(77);
        x.day();
        x.halt();
        x.gravel(0);
        x.keep(0);
        x.keep(1);
        x.write('X');
        String ahead = Check.look(x);
        CHECK.due("army of a fault", x.army(), LameLead.LATE);
        CHECK.isSo("a refused army changes nothing", ahead.equals(Check.look(x)));
        CHECK.due("what was kept stays", x.again(1), 2);
        x.gravel(0);
        Check.tell(x, "AM713S91M522");
        CHECK.due("army anew", x.army(), 12);
        CHECK.due("mile", x.about(3), 0);
        CHECK.due("day", x.about(4), 0);
        CHECK.due("end", x.about(2), 9);
        CHECK.due("thorns", x.about(8), 5);
        CHECK.due("acts", x.about(9), 0);
        CHECK.due("tried stays", x.about(10), 1);
        CHECK.due("the text stays", x.about(11), 12);
        CHECK.due("undo", x.undo(), LameLead.LATE);
        CHECK.due("kept 0 is gone", x.again(0), LameLead.LATE);
        CHECK.due("kept 1 is gone", x.again(1), LameLead.LATE);
        CHECK.due("seed stays", x.seed(0), 77);
        CHECK.due("man 2 is gone", x.man(2, 0), LameLead.UNKNOWN);
        CHECK.due("stretch 1 is gone", x.stretch(1, 0), LameLead.UNKNOWN);
        x.day();
        CHECK.due("the same text again", x.army(), 12);
        CHECK.due("mile 0 again", x.about(3), 0);
        Check.tell(x, "A");
        CHECK.due("nobody", x.army(), 0);
        CHECK.due("no thorns of those gone", x.about(8), 0);
        CHECK.due("no leader", x.about(5), LameLead.NONE);
    }

    private static void about() {
        // Speeds 9, 8 - 1, 7 - 6, 6 - 10, 5 - 18: the first of the slowest is man 2.
        LameLead x = Check.of("A" + ALL_STRETCHES + ALL_MEN);
        x.attempt(0, 3, 1);
        x.attempt(0, 4, 1);
        int[] due = {8, 5, 36, 0, 0, 2, 1, 0, 17, 0, 2, 45};
        for (int what = 0; what < due.length; what++) {
            CHECK.due("about(" + what + ")", x.about(what), due[what]);
        }
        x.day();
        CHECK.due("mile", x.about(3), 1);
        CHECK.due("day", x.about(4), 1);
        CHECK.due("stretch 1 begins at mile 1", x.about(7), 1);
        x.day();
        CHECK.due("stretch 1 goes on", x.about(7), 1);
        x.day();
        CHECK.due("stretch 2", x.about(7), 2);
        CHECK.due("acts", x.about(9), 3);
        CHECK.due("about(-1)", x.about(-1), LameLead.BAD);
        CHECK.due("about(12)", x.about(12), LameLead.BAD);
        CHECK.due("about(min)", x.about(Integer.MIN_VALUE), LameLead.BAD);
        LameLead there = Check.of("AS30M900M700");
        CHECK.due("leader", there.about(5), 1);
        CHECK.due("his speed", there.about(6), 7);
        there.day();
        CHECK.due("there: mile", there.about(3), 3);
        CHECK.due("there: no stretch", there.about(7), LameLead.NONE);
        CHECK.due("there: leader", there.about(5), 1);
        LameLead alike = Check.of("AM700M501M300M711");
        CHECK.due("of like ones the least", alike.about(5), 1);
        CHECK.due("no road, no stretch", alike.about(7), LameLead.NONE);
    }

    private static void man() {
        LameLead x = Check.of("A" + ALL_MEN);
        int[][] due = {{9, 0, 0, 9}, {8, 1, 1, 7}, {7, 2, 2, 1}, {6, 3, 5, 1}};
        for (int man = 0; man < due.length; man++) {
            for (int what = 0; what < 4; what++) {
                CHECK.due("man(" + man + ", " + what + ")", x.man(man, what), due[man][what]);
            }
        }
        LameLead kinds = Check.of("AM902M912M922M932");
        CHECK.due("plain, 2 thorns", kinds.man(0, 3), 5);
        CHECK.due("tough, 2 thorns", kinds.man(1, 3), 7);
        CHECK.due("lad, 2 thorns", kinds.man(2, 3), 3);
        CHECK.due("old, 2 thorns", kinds.man(3, 3), 5);
        CHECK.due("speed 1 at least", Check.of("AM939").man(0, 3), 1);
        CHECK.due("speed of no thorns", Check.of("AM120").man(0, 3), 1);
        CHECK.due("man(4, 0)", kinds.man(4, 0), LameLead.UNKNOWN);
        CHECK.due("man(5, 0)", x.man(5, 0), LameLead.UNKNOWN);
        CHECK.due("man(-1, 0)", kinds.man(-1, 0), LameLead.UNKNOWN);
        CHECK.due("man(max, 9)", kinds.man(Integer.MAX_VALUE, 9), LameLead.UNKNOWN);
        CHECK.due("man(0, 4)", kinds.man(0, 4), LameLead.BAD);
        CHECK.due("man(0, -1)", kinds.man(0, -1), LameLead.BAD);
    }

    private static void stretch() {
        LameLead x = Check.of("A" + ALL_STRETCHES);
        int[][] due = {{1, 0, 0}, {2, 1, 1}, {3, 2, 3}, {4, 3, 6}, {5, 0, 10}, {6, 1, 15}, {7, 2, 21}, {8, 3, 28}};
        for (int stretch = 0; stretch < due.length; stretch++) {
            for (int what = 0; what < 3; what++) {
                CHECK.due("stretch(" + stretch + ", " + what + ")", x.stretch(stretch, what), due[stretch][what]);
            }
        }
        CHECK.due("stretch(8, 0)", x.stretch(8, 0), LameLead.UNKNOWN);
        CHECK.due("stretch(-1, 0)", x.stretch(-1, 0), LameLead.UNKNOWN);
        CHECK.due("stretch(8, 3)", x.stretch(8, 3), LameLead.UNKNOWN);
        CHECK.due("stretch(0, 3)", x.stretch(0, 3), LameLead.BAD);
        CHECK.due("stretch(0, -1)", x.stretch(0, -1), LameLead.BAD);
        CHECK.due("stretch told behind men", Check.of("AS10M100S22").stretch(1, 2), 1);
    }
}
