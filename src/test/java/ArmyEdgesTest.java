/** Boundary cases of promises 1 to 8; the comment of each test is the sentence of the document that it holds to. */
public final class ArmyEdgesTest {
    private static final Check CHECK = new Check();
    private static final String MOST_STRETCHES = "S90S91S92S93S90S91S92S93";
    private static final String MOST_MEN = "M909M919M929M939M909";
    private static final int[] EXTREMES = {Integer.MIN_VALUE, Integer.MIN_VALUE + 1, -10, -9, -4, -3, -2, -1};

    public static void main(String[] args) {
        newObject();
        objectsShareNothing();
        bytesTaken();
        bytesRefused();
        fullText();
        badAheadOfFull();
        wipeOfEmptyAndFull();
        wipeLeavesTheArmy();
        faultOfTheEmptyText();
        faultByEachByte();
        faultIsLengthWhenCutShort();
        faultIsTheFirst();
        eightStretches();
        fiveMen();
        faultOfTheFullText();
        armyOfNothing();
        armyOfMost();
        armyLate();
        armyAnew();
        numberedEachKindForItself();
        aboutRefused();
        aboutNobody();
        aboutMost();
        stretchByMile();
        leaderOfLikeOnes();
        speedOneAtLeast();
        manKnownAndUnknown();
        manBad();
        stretchKnownAndUnknown();
        stretchBad();
        CHECK.end("ArmyEdgesTest");
    }

    /** "Nobody, no road." */
    private static void newObject() {
        LameLead x = new LameLead();
        int[] due = {0, 0, 0, 0, 0, LameLead.NONE, 0, LameLead.NONE, 0, 0, 0, 0};
        for (int what = 0; what < due.length; what++) {
            CHECK.due("new: about(" + what + ")", x.about(what), due[what]);
        }
        for (int i = 0; i < 8; i++) {
            CHECK.due("new: man " + i, x.man(i, 0), LameLead.UNKNOWN);
            CHECK.due("new: stretch " + i, x.stretch(i, 0), LameLead.UNKNOWN);
        }
        CHECK.due("new: fault", x.fault(), 0);
        CHECK.due("new: wipe", x.wipe(), 0);
        CHECK.due("new: unattempt", x.unattempt(), 0);
        CHECK.due("new: undo", x.undo(), LameLead.LATE);
        CHECK.due("new: again(0)", x.again(0), LameLead.LATE);
        CHECK.due("new: again(1)", x.again(1), LameLead.LATE);
        CHECK.due("new: seed", x.seed(1), 0);
    }

    private static void objectsShareNothing() {
        LameLead used = Check.of("AS90M900");
        used.day();
        used.keep(0);
        used.attempt(0, 9, 0);
        used.seed(5);
        LameLead x = new LameLead();
        CHECK.isSo("a new object behind a used one", Check.look(new LameLead()).equals(Check.look(x)));
        CHECK.due("its slot", x.again(0), LameLead.LATE);
        CHECK.due("its seed", x.seed(0), 0);
        CHECK.due("what the used one kept", used.again(0), 1);
    }

    /** "A byte (0 .. 255) comes behind THE TEXT: how long it is." */
    private static void bytesTaken() {
        for (int letter = 0; letter <= 255; letter++) {
            LameLead x = new LameLead();
            CHECK.due("write(" + letter + ")", x.write(letter), 1);
            CHECK.due("fault by byte " + letter, x.fault(), letter == 'A' ? LameLead.NONE : 0);
        }
    }

    /** "BAD": what is no byte. */
    private static void bytesRefused() {
        LameLead x = new LameLead();
        x.write('A');
        // The lower eight bits of the last four are those of A.
        int[] bad = {-1, 256, Integer.MIN_VALUE, Integer.MAX_VALUE, 'A' + 256, 'A' - 256, 'A' + (1 << 16), 'A' | 1 << 31};
        for (int letter : bad) {
            CHECK.due("write(" + letter + ")", x.write(letter), LameLead.BAD);
            CHECK.due("bytes behind write(" + letter + ")", x.about(11), 1);
        }
        CHECK.due("the text is still A", x.army(), 0);
    }

    /** "THE TEXT is bytes (48 at most)"; "FULL: there are 48." */
    private static void fullText() {
        LameLead x = new LameLead();
        for (int size = 1; size <= 48; size++) {
            CHECK.due("byte " + size, x.write(size == 1 ? 'A' : 'B'), size);
        }
        for (int more = 0; more < 3; more++) {
            CHECK.due("byte 49", x.write('A'), LameLead.FULL);
            CHECK.due("bytes", x.about(11), 48);
        }
        CHECK.due("fault", x.fault(), 1);
        CHECK.due("wipe of the full text", x.wipe(), 48);
        CHECK.due("room again", x.write('A'), 1);
        CHECK.due("nothing is left of it", x.fault(), LameLead.NONE);
    }

    /** "BAD; FULL": of several what is told first. */
    private static void badAheadOfFull() {
        LameLead x = new LameLead();
        for (int size = 1; size <= 48; size++) {
            x.write('A');
        }
        for (int letter : new int[] {-1, 256, Integer.MIN_VALUE, Integer.MAX_VALUE}) {
            CHECK.due("write(" + letter + ") at 48", x.write(letter), LameLead.BAD);
        }
        CHECK.due("write(0) at 48", x.write(0), LameLead.FULL);
        CHECK.due("write(255) at 48", x.write(255), LameLead.FULL);
        CHECK.due("bytes", x.about(11), 48);
    }

    /** "THE TEXT is empty: how long it was." */
    private static void wipeOfEmptyAndFull() {
        CHECK.due("wipe of nothing", new LameLead().wipe(), 0);
        for (int size = 1; size <= 48; size++) {
            LameLead x = new LameLead();
            Check.tell(x, "B".repeat(size));
            CHECK.due("wipe of " + size, x.wipe(), size);
            CHECK.due("wipe again", x.wipe(), 0);
            CHECK.due("bytes", x.about(11), 0);
        }
    }

    /** THE TEXT is THE ARMY by `army` alone. */
    private static void wipeLeavesTheArmy() {
        LameLead x = Check.of("AS21M700");
        x.day();
        x.wipe();
        CHECK.due("stretches", x.about(0), 1);
        CHECK.due("men", x.about(1), 1);
        CHECK.due("mile", x.about(3), 2);
        x.write('A');
        CHECK.due("a text without a fault is no army yet", x.about(1), 1);
        CHECK.due("acts", x.undo(), 0);
    }

    private static int faultOf(String text) {
        LameLead x = new LameLead();
        Check.tell(x, text);
        return x.fault();
    }

    /** "its length, if it is only not at its end": the empty text's length is 0. */
    private static void faultOfTheEmptyText() {
        CHECK.due("fault of nothing", new LameLead().fault(), 0);
        LameLead x = Check.of("AS10");
        x.wipe();
        CHECK.due("fault of what was wiped", x.fault(), 0);
        CHECK.due("army of what was wiped", x.army(), LameLead.LATE);
    }

    /** "the place of the first byte by which THE TEXT can be no ARMY": all 256 bytes at each kind of place. */
    private static void faultByEachByte() {
        String[] ahead = {"", "A", "AS", "AS1", "AM", "AM1", "AM10", "AS10", "AM100", "AS10M"};
        String[] fit = {"A", "SM", "123456789", "0123", "123456789", "0123", "0123456789", "SM", "SM", "123456789"};
        for (int i = 0; i < ahead.length; i++) {
            for (int letter = 0; letter <= 255; letter++) {
                String text = ahead[i] + (char) letter;
                int due = fit[i].indexOf(letter) < 0 ? ahead[i].length() : text.length();
                boolean whole = text.matches("A(S..|M...)*") && due == text.length();
                CHECK.due("fault of " + ahead[i] + " and byte " + letter, faultOf(text), whole ? LameLead.NONE : due);
            }
        }
    }

    /** "its length, if it is only not at its end; NONE: none." */
    private static void faultIsLengthWhenCutShort() {
        String text = "A" + MOST_STRETCHES + MOST_MEN;
        for (int size = 0; size <= text.length(); size++) {
            boolean whole = size >= 1 && (size <= 25 ? (size - 1) % 3 == 0 : (size - 25) % 4 == 0);
            CHECK.due("fault of the first " + size, faultOf(text.substring(0, size)), whole ? LameLead.NONE : size);
        }
    }

    /** "the first byte .., whatever came behind it". */
    private static void faultIsTheFirst() {
        CHECK.due("two faults", faultOf("AS04M040"), 2);
        CHECK.due("a fault, then what fits", faultOf("AS14S10"), 3);
        CHECK.due("no A, else an army", faultOf("S10"), 0);
        CHECK.due("A is told once", faultOf("AA"), 1);
        CHECK.due("a fault, then cut short", faultOf("AM1S"), 3);
    }

    /** "STRETCHES are 0, 1, .. (8 at most)". */
    private static void eightStretches() {
        CHECK.due("eight", faultOf("A" + MOST_STRETCHES), LameLead.NONE);
        CHECK.due("the ninth begins", faultOf("A" + MOST_STRETCHES + "S"), 25);
        CHECK.due("the ninth", faultOf("A" + MOST_STRETCHES + "S10"), 25);
        CHECK.due("the ninth, cut short", faultOf("A" + MOST_STRETCHES + "S1"), 25);
        CHECK.due("the ninth behind a man", faultOf("A" + MOST_STRETCHES + "M100S10"), 29);
        CHECK.due("a man behind eight", faultOf("A" + MOST_STRETCHES + "M100"), LameLead.NONE);
    }

    /** "MEN 0, 1, .. (5 at most)". */
    private static void fiveMen() {
        CHECK.due("five", faultOf("A" + MOST_MEN), LameLead.NONE);
        CHECK.due("the sixth begins", faultOf("A" + MOST_MEN + "M"), 21);
        CHECK.due("the sixth", faultOf("A" + MOST_MEN + "M100"), 21);
        CHECK.due("the sixth behind a stretch", faultOf("A" + MOST_MEN + "S10M100"), 24);
        CHECK.due("a stretch behind five", faultOf("A" + MOST_MEN + "S10"), LameLead.NONE);
    }

    /** "(its length set aside)": of the full TEXT, too, the fault is the first byte that is too much. */
    private static void faultOfTheFullText() {
        String most = "A" + MOST_STRETCHES + MOST_MEN;
        CHECK.due("most", most.length(), 45);
        CHECK.due("a ninth stretch at its end", faultOf(most + "S10"), 45);
        CHECK.due("a sixth man at its end", faultOf(most + "M10"), 45);
        CHECK.due("48 bytes of A", faultOf("A".repeat(48)), 1);
        CHECK.due("48 bytes of no A", faultOf("S".repeat(48)), 0);
    }

    /** "A, then THINGS, none or more". */
    private static void armyOfNothing() {
        LameLead x = new LameLead();
        x.write('A');
        CHECK.due("army of A", x.army(), 0);
        CHECK.due("the end", x.about(2), 0);
        CHECK.due("no men", Check.of("AS10").about(1), 0);
        CHECK.due("no stretch", Check.of("AM100").about(0), 0);
    }

    /** "10 times STRETCHES, and MEN": the most, the longest and the shortest road. */
    private static void armyOfMost() {
        LameLead x = new LameLead();
        Check.tell(x, "A" + MOST_STRETCHES + MOST_MEN);
        CHECK.due("army", x.army(), 85);
        CHECK.due("the end", x.about(2), 72);
        CHECK.due("thorns", x.about(8), 45);
        CHECK.due("eight of a mile", Check.of("AS10S11S12S13S10S11S12S13").about(2), 8);
        Check.tell(x, "A" + MOST_MEN + "S10");
        CHECK.due("one stretch, five men", x.army(), 15);
        Check.tell(x, "AM100" + MOST_STRETCHES);
        CHECK.due("eight stretches, one man", x.army(), 81);
    }

    /** "LATE: a FAULT." */
    private static void armyLate() {
        for (String text : new String[] {"", "B", "AA", "AS", "AS0", "AS1", "AS14", "AM10", "AM1000", "AS10 "}) {
            LameLead x = Check.of("AS30M201");
            x.day();
            Check.tell(x, text);
            String ahead = Check.look(x);
            CHECK.due("army of '" + text + "'", x.army(), LameLead.LATE);
            CHECK.isSo("nothing changed by '" + text + "'", ahead.equals(Check.look(x)));
            CHECK.due("the act stays", x.undo(), 0);
        }
    }

    /** "no ACTS; what was kept is gone; TRIED, THE SEED stay"; "at MILE 0, THORNS are as told, THE DAY is 0". */
    private static void armyAnew() {
        LameLead x = Check.of("AS90M902M934");
        x.attempt(0, 8, 0);
        x.seed(Long.MIN_VALUE);
        x.keep(0);
        x.day();
        x.gravel(0);
        x.pull(1);
        x.keep(1);
        CHECK.due("army", x.army(), 12);
        int[] due = {1, 2, 9, 0, 0, 1, 1, 0, 6, 0, 1, 12};
        for (int what = 0; what < due.length; what++) {
            CHECK.due("anew: about(" + what + ")", x.about(what), due[what]);
        }
        CHECK.due("thorns of 0", x.man(0, 2), 2);
        CHECK.due("thorns of 1", x.man(1, 2), 4);
        CHECK.due("no acts", x.undo(), LameLead.LATE);
        CHECK.due("kept in 0", x.again(0), LameLead.LATE);
        CHECK.due("kept in 1", x.again(1), LameLead.LATE);
        CHECK.due("tried", x.paces(0), 3);
        CHECK.due("seed", x.seed(0), Long.MIN_VALUE);
    }

    /** "numbered as they are told, each kind for itself". */
    private static void numberedEachKindForItself() {
        LameLead x = Check.of("AM100S21M212S32M323");
        for (int i = 0; i < 3; i++) {
            CHECK.due("pace of " + i, x.man(i, 0), i + 1);
            CHECK.due("kind of " + i, x.man(i, 1), i);
            CHECK.due("thorns of " + i, x.man(i, 2), new int[] {0, 2, 3}[i]);
        }
        CHECK.due("miles of 0", x.stretch(0, 0), 2);
        CHECK.due("miles of 1", x.stretch(1, 0), 3);
        CHECK.due("begin of 0", x.stretch(0, 2), 0);
        CHECK.due("begin of 1", x.stretch(1, 2), 2);
        CHECK.due("no third stretch", x.stretch(2, 0), LameLead.UNKNOWN);
    }

    /** about: "BAD." */
    private static void aboutRefused() {
        for (LameLead x : new LameLead[] {new LameLead(), Check.of("A" + MOST_STRETCHES + MOST_MEN)}) {
            for (int what : EXTREMES) {
                CHECK.due("about(" + what + ")", x.about(what), LameLead.BAD);
            }
            for (int what : new int[] {12, 13, Integer.MAX_VALUE - 1, Integer.MAX_VALUE}) {
                CHECK.due("about(" + what + ")", x.about(what), LameLead.BAD);
            }
            CHECK.isSo("about(0)", x.about(0) >= 0);
            CHECK.isSo("about(11)", x.about(11) >= 0);
        }
    }

    /** "THE LEADER (5; NONE), his SPEED (6; 0: there is none), the STRETCH .. (7; NONE: it is THERE)". */
    private static void aboutNobody() {
        LameLead road = Check.of("AS10");
        CHECK.due("no leader", road.about(5), LameLead.NONE);
        CHECK.due("no speed", road.about(6), 0);
        CHECK.due("a stretch, though nobody", road.about(7), 0);
        LameLead man = Check.of("AM139");
        CHECK.due("leader", man.about(5), 0);
        CHECK.due("speed", man.about(6), 1);
        CHECK.due("there, no road", man.about(7), LameLead.NONE);
    }

    private static void aboutMost() {
        LameLead x = Check.of("A" + MOST_STRETCHES + MOST_MEN);
        for (int i = 0; i < 20; i++) {
            x.halt();
        }
        for (int i = 0; i < 8; i++) {
            x.attempt(0, 1, 1);
            x.write('A');
        }
        int[] due = {8, 5, 72, 0, 20, 3, 1, 0, 9, 14, 6, 48};
        for (int what = 0; what < due.length; what++) {
            CHECK.due("most: about(" + what + ")", x.about(what), due[what]);
        }
    }

    /** "in the STRETCH in which that MILE is (its first one is that behind the last one of the one ahead)". */
    private static void stretchByMile() {
        LameLead x = Check.of("AS90S10S92S20S90S12S90S90M100");
        int[] begins = {0, 9, 10, 19, 21, 30, 31, 40};
        int at = 0;
        for (int mile = 0; mile < 49; mile++) {
            if (at < 7 && mile == begins[at + 1]) {
                at++;
            }
            CHECK.due("mile", x.about(3), mile);
            CHECK.due("stretch at mile " + mile, x.about(7), at);
            x.day();
        }
        CHECK.due("there", x.about(3), 49);
        CHECK.due("no stretch there", x.about(7), LameLead.NONE);
        LameLead longest = Check.of("AS90S90S90S90S90S90S90S90M900");
        for (int stretch = 0; stretch < 8; stretch++) {
            CHECK.due("stretch of mile " + 9 * stretch, longest.about(7), stretch);
            CHECK.due("it begins", longest.stretch(stretch, 2), 9 * stretch);
            longest.day();
        }
        CHECK.due("mile 72", longest.about(3), 72);
        CHECK.due("there", longest.about(7), LameLead.NONE);
    }

    /** "THE LEADER is the MAN of least SPEED, of like ones the least." */
    private static void leaderOfLikeOnes() {
        CHECK.due("all alike", Check.of("AM500M500M500M500M500").about(5), 0);
        CHECK.due("alike by thorns", Check.of("AM900M901M700M821M510").about(5), 3);
        CHECK.due("all at 1", Check.of("AM109M119M129M139M100").about(5), 0);
        CHECK.due("only the last is slower", Check.of("AM500M500M500M500M400").about(5), 4);
        CHECK.due("the last two alike", Check.of("AM900M900M900M400M400").about(5), 3);
    }

    /** "SPEED of a MAN: PACE less THORNS times 2 (TOUGH 1, LAD 3; OLD 2), 1 at least." */
    private static void speedOneAtLeast() {
        int[] by = {2, 1, 3, 2};
        for (int pace = 1; pace <= 9; pace++) {
            for (int kind = 0; kind <= 3; kind++) {
                for (int thorns = 0; thorns <= 9; thorns++) {
                    int due = Math.max(1, pace - by[kind] * thorns);
                    LameLead x = Check.of("AM" + pace + kind + thorns);
                    CHECK.due("speed of " + pace + kind + thorns, x.man(0, 3), due);
                    CHECK.due("he leads by it", x.about(6), due);
                }
            }
        }
    }

    /** man: "UNKNOWN", told ahead of "BAD". */
    private static void manKnownAndUnknown() {
        for (int men = 0; men <= 5; men++) {
            LameLead x = Check.of("A" + "M700".repeat(men));
            for (int man = 0; man <= 8; man++) {
                CHECK.due("man " + man + " of " + men, x.man(man, 0), man < men ? 7 : LameLead.UNKNOWN);
                CHECK.due("and bad", x.man(man, 4), man < men ? LameLead.BAD : LameLead.UNKNOWN);
            }
            for (int man : EXTREMES) {
                CHECK.due("man " + man + " of " + men, x.man(man, 0), LameLead.UNKNOWN);
                CHECK.due("unknown is told first", x.man(man, -1), LameLead.UNKNOWN);
            }
            CHECK.due("man max of " + men, x.man(Integer.MAX_VALUE, Integer.MAX_VALUE), LameLead.UNKNOWN);
        }
    }

    private static void manBad() {
        LameLead x = Check.of("AM939");
        for (int what : EXTREMES) {
            CHECK.due("man(0, " + what + ")", x.man(0, what), LameLead.BAD);
        }
        CHECK.due("man(0, 0)", x.man(0, 0), 9);
        CHECK.due("man(0, 1)", x.man(0, 1), 3);
        CHECK.due("man(0, 2)", x.man(0, 2), 9);
        CHECK.due("man(0, 3)", x.man(0, 3), 1);
        CHECK.due("man(0, 4)", x.man(0, 4), LameLead.BAD);
        CHECK.due("man(0, max)", x.man(0, Integer.MAX_VALUE), LameLead.BAD);
    }

    /** stretch: "UNKNOWN", told ahead of "BAD". */
    private static void stretchKnownAndUnknown() {
        for (int stretches = 0; stretches <= 8; stretches++) {
            LameLead x = Check.of("A" + "S72".repeat(stretches) + "M100");
            for (int i = 0; i <= 10; i++) {
                boolean known = i < stretches;
                CHECK.due("stretch " + i + " of " + stretches, x.stretch(i, 0), known ? 7 : LameLead.UNKNOWN);
                CHECK.due("and bad", x.stretch(i, 3), known ? LameLead.BAD : LameLead.UNKNOWN);
            }
            for (int i : EXTREMES) {
                CHECK.due("stretch " + i + " of " + stretches, x.stretch(i, 0), LameLead.UNKNOWN);
                CHECK.due("unknown is told first", x.stretch(i, -1), LameLead.UNKNOWN);
            }
            CHECK.due("stretch max", x.stretch(Integer.MAX_VALUE, Integer.MAX_VALUE), LameLead.UNKNOWN);
        }
    }

    private static void stretchBad() {
        LameLead x = Check.of("AS10S93");
        for (int what : EXTREMES) {
            CHECK.due("stretch(0, " + what + ")", x.stretch(0, what), LameLead.BAD);
        }
        CHECK.due("stretch(1, 0)", x.stretch(1, 0), 9);
        CHECK.due("stretch(1, 1)", x.stretch(1, 1), 3);
        CHECK.due("stretch(1, 2)", x.stretch(1, 2), 1);
        CHECK.due("stretch(1, 3)", x.stretch(1, 3), LameLead.BAD);
        CHECK.due("stretch(1, max)", x.stretch(1, Integer.MAX_VALUE), LameLead.BAD);
    }
}
