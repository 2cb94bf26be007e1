/** Boundary cases of promises 9 to 13, 28 and 29; the comment of each test is the sentence that it holds to. */
public final class ActEdgesTest {
    private static final Check CHECK = new Check();
    private static final String FAR = "S90S90S90S90S90S90S90S90";
    private static final int[] NOBODY = {Integer.MIN_VALUE, Integer.MIN_VALUE + 1, -9, -1, 5, 8, Integer.MAX_VALUE};

    public static void main(String[] args) {
        dayWhenThere();
        dayOfNobody();
        dayOnEachGround();
        dayByWhereItBegins();
        dayNoFartherThanTheEnd();
        thicketNineAtMost();
        thicketLastMile();
        thicketThenHealing();
        healingByTheDay();
        healingNoneAtLeast();
        daysAreMany();
        haltEdges();
        gravelNineAtMost();
        gravelUnknown();
        pullNoneAtLeast();
        pullUnknown();
        undoOfNone();
        fourteenActs();
        fifteenthForgetsTheFirst();
        refusedIsNoAct();
        undoEachKind();
        undoLeavesTheRest();
        slotsKnown();
        againLate();
        againForgetsActs();
        keptStays();
        keptByWhatIsKept();
        keptLate();
        CHECK.end("ActEdgesTest");
    }

    private static void times(int n, Runnable call) {
        for (int i = 0; i < n; i++) {
            call.run();
        }
    }

    /** "if THE ARMY is not THERE": but THE DAY is one more, and THORNS heal. */
    private static void dayWhenThere() {
        LameLead x = Check.of("AS10M903M933");
        CHECK.due("the last mile", x.day(), 1);
        CHECK.due("there", x.day(), 0);
        CHECK.due("thorns on day 2", x.about(8), 6);
        CHECK.due("there", x.day(), 0);
        CHECK.due("healed when there", x.man(0, 2), 2);
        CHECK.due("old ones not", x.man(1, 2), 3);
        CHECK.due("mile", x.about(3), 1);
        CHECK.due("day", x.about(4), 3);
        CHECK.due("acts", x.about(9), 3);
        LameLead noRoad = Check.of("AM901");
        CHECK.due("no road: there at once", noRoad.day(), 0);
        CHECK.due("no road: mile", noRoad.about(3), 0);
        CHECK.due("no road: day", noRoad.about(4), 1);
    }

    /** "and there is a LEADER". */
    private static void dayOfNobody() {
        for (int ground = 0; ground <= 3; ground++) {
            LameLead x = Check.of("AS9" + ground);
            for (int day = 1; day <= 4; day++) {
                CHECK.due("nobody goes", x.day(), 0);
                CHECK.due("mile", x.about(3), 0);
                CHECK.due("day", x.about(4), day);
                CHECK.due("thorns", x.about(8), 0);
            }
        }
    }

    /** "as many MILES as the SPEED of THE LEADER; .. in a BOG, half of that (cut; 1 at least), in a RIVER 1". */
    private static void dayOnEachGround() {
        int[] bog = {1, 1, 1, 2, 2, 3, 3, 4, 4};
        for (int pace = 1; pace <= 9; pace++) {
            CHECK.due("hard, " + pace, Check.of("AS90S90M" + pace + "00").day(), pace);
            CHECK.due("bog, " + pace, Check.of("AS91S91M" + pace + "00").day(), bog[pace - 1]);
            CHECK.due("river, " + pace, Check.of("AS92S92M" + pace + "00").day(), 1);
            CHECK.due("thicket, " + pace, Check.of("AS93S93M" + pace + "00").day(), pace);
        }
    }

    /** "if it begins in a BOG": by the first MILE of the DAY alone. */
    private static void dayByWhereItBegins() {
        LameLead outOfHard = Check.of("AS10S91S12S90M900");
        CHECK.due("from the last hard mile, through bog", outOfHard.day(), 9);
        CHECK.due("in the bog's last mile", outOfHard.about(7), 1);
        CHECK.due("from the bog's last mile, through the river", outOfHard.day(), 4);
        CHECK.due("on hard ground", outOfHard.about(7), 3);
        LameLead intoRiver = Check.of("AS90S12S90M900");
        CHECK.due("to the river's first mile", intoRiver.day(), 9);
        CHECK.due("in the river", intoRiver.about(7), 1);
        CHECK.due("out of it", intoRiver.day(), 1);
        CHECK.due("hard again", intoRiver.day(), 9);
    }

    /** "no farther than to THE END". */
    private static void dayNoFartherThanTheEnd() {
        for (int miles = 1; miles <= 9; miles++) {
            LameLead x = Check.of("AS" + miles + "0M500");
            CHECK.due("first day of " + miles, x.day(), Math.min(miles, 5));
            CHECK.due("second day of " + miles, x.day(), Math.max(0, miles - 5));
            CHECK.due("third day of " + miles, x.day(), 0);
            CHECK.due("at the end of " + miles, x.about(3), miles);
        }
        LameLead far = Check.of("A" + FAR + "M500");
        times(14, far::day);
        CHECK.due("mile 70", far.about(3), 70);
        CHECK.due("two left of 72", far.day(), 2);
        CHECK.due("mile 72", far.about(3), 72);
        CHECK.due("none left", far.day(), 0);
        CHECK.due("bog cut at the end", Check.of("AS11M900").day(), 1);
    }

    /** "the MAN that led has 1 THORN more (9 at most)". */
    private static void thicketNineAtMost() {
        LameLead eight = Check.of("AS93M138");
        eight.day();
        CHECK.due("8 becomes 9", eight.man(0, 2), 9);
        eight.day();
        CHECK.due("9 stays 9", eight.man(0, 2), 9);
        eight.day();
        CHECK.due("an old one's 9 stay", eight.man(0, 2), 9);
        CHECK.due("and he goes on", eight.about(3), 3);
    }

    /** "If it began in a THICKET": on its last MILE, too; not THERE. */
    private static void thicketLastMile() {
        LameLead x = Check.of("AS20S13M230");
        x.day();
        CHECK.due("into the thicket", x.man(0, 2), 0);
        CHECK.due("its only mile", x.day(), 1);
        CHECK.due("the thorn", x.man(0, 2), 1);
        x.day();
        CHECK.due("there: no more", x.man(0, 2), 1);
    }

    /** "Then, if THE DAY is ..": at 9 the thicket gives none, and 1 heals; at 8 it gives 1, and 1 heals. */
    private static void thicketThenHealing() {
        int[] due = {0, 1, 2, 3, 4, 5, 6, 7, 8, 8};
        for (int thorns = 0; thorns <= 9; thorns++) {
            LameLead x = Check.of("AS10S10S93S93M10" + thorns);
            x.day();
            x.day();
            CHECK.due("in the thicket", x.about(7), 2);
            x.day();
            CHECK.due("thorn, then healing of " + thorns, x.man(0, 2), due[thorns]);
        }
    }

    /** "if THE DAY is one by which 2 is left by 3": 2, 5, 8, .. and no other. */
    private static void healingByTheDay() {
        LameLead x = Check.of("A" + FAR + "M109M119M129M139");
        for (int day = 0; day < 33; day++) {
            int due = Math.max(0, 9 - day / 3);
            for (int man = 0; man < 3; man++) {
                CHECK.due("thorns of " + man + " on day " + day, x.man(man, 2), due);
            }
            CHECK.due("of the old one on day " + day, x.man(3, 2), 9);
            x.day();
        }
        LameLead halted = Check.of("AS90M105");
        halted.halt();
        halted.halt();
        CHECK.due("day 2", halted.man(0, 2), 3);
        halted.day();
        CHECK.due("the day counts halts, too", halted.man(0, 2), 2);
        halted.day();
        CHECK.due("day 3 heals none", halted.man(0, 2), 2);
    }

    /** "each MAN but OLD ones has 1 THORN less (0 at least)". */
    private static void healingNoneAtLeast() {
        LameLead x = Check.of("AS90M101M110M121M131");
        times(3, x::day);
        int[] due = {0, 0, 0, 1};
        for (int man = 0; man < 4; man++) {
            CHECK.due("thorns of " + man, x.man(man, 2), due[man]);
        }
        times(3, x::day);
        for (int man = 0; man < 4; man++) {
            CHECK.due("0 at least of " + man, x.man(man, 2), due[man]);
        }
        CHECK.due("by a halt, too", x.halt(), 1);
        CHECK.due("no thorns, greatest speed", x.man(0, 3), 1);
    }

    /** "An object is used for at most 512 calls": the last of them are as right as the first. */
    private static void daysAreMany() {
        LameLead x = new LameLead();
        Check.tell(x, "AM939");
        x.army();
        int made = 7;
        times(499, x::day);
        made += 499;
        CHECK.due("day 499", x.about(4), 499);
        CHECK.due("keep", x.keep(1), 499);
        CHECK.due("undo", x.undo(), 13);
        CHECK.due("day 498", x.about(4), 498);
        CHECK.due("again", x.again(1), 499);
        made += 5;
        CHECK.due("call 512", x.day(), 0);
        CHECK.due("calls", made + 1, 512);
        LameLead halts = Check.of("AS10M100");
        times(490, halts::halt);
        CHECK.due("day 490", halts.about(4), 490);
        CHECK.due("mile 0", halts.about(3), 0);
    }

    /** "A HALT: nobody goes; each MAN but OLD ones has 1 THORN less (0 at least); THE DAY is one more." */
    private static void haltEdges() {
        LameLead x = Check.of("AS93M109M119M129M139M100");
        for (int day = 1; day <= 11; day++) {
            CHECK.due("halt " + day, x.halt(), 9 + 3 * Math.max(0, 9 - day));
            CHECK.due("day", x.about(4), day);
            CHECK.due("mile", x.about(3), 0);
            CHECK.due("old one", x.man(3, 2), 9);
            CHECK.due("0 at least", x.man(4, 2), 0);
        }
        CHECK.due("a halt of nobody", Check.of("AS90").halt(), 0);
        LameLead there = Check.of("AM102");
        CHECK.due("a halt when there", there.halt(), 1);
        CHECK.due("its day", there.about(4), 1);
    }

    /** "a MAN has 1 THORN more (9 at most)"; "FULL: he has 9." */
    private static void gravelNineAtMost() {
        for (int kind = 0; kind <= 3; kind++) {
            LameLead x = Check.of("AS90M9" + kind + "0M900");
            for (int thorns = 1; thorns <= 9; thorns++) {
                CHECK.due("gravel " + thorns, x.gravel(0), thorns);
            }
            CHECK.due("the tenth", x.gravel(0), LameLead.FULL);
            CHECK.due("he still has 9", x.man(0, 2), 9);
            CHECK.due("acts", x.about(9), 9);
            CHECK.due("another one has room", x.gravel(1), 1);
            CHECK.due("pulled", x.pull(0), 8);
            CHECK.due("room again", x.gravel(0), 9);
        }
    }

    /** gravel: "UNKNOWN". */
    private static void gravelUnknown() {
        for (int men = 0; men <= 5; men++) {
            LameLead x = Check.of("A" + "M530".repeat(men));
            for (int man = 0; man < 5; man++) {
                CHECK.due("gravel(" + man + ") of " + men, x.gravel(man), man < men ? 1 : LameLead.UNKNOWN);
            }
            for (int man : NOBODY) {
                CHECK.due("gravel(" + man + ") of " + men, x.gravel(man), LameLead.UNKNOWN);
            }
            CHECK.due("acts", x.about(9), men);
            CHECK.due("thorns", x.about(8), men);
        }
    }

    /** "a MAN that has any has 1 THORN less (OLD ones, too)"; "LATE: he has none." */
    private static void pullNoneAtLeast() {
        for (int kind = 0; kind <= 3; kind++) {
            LameLead x = Check.of("AS90M9" + kind + "9M901");
            for (int thorns = 8; thorns >= 0; thorns--) {
                CHECK.due("pull to " + thorns, x.pull(0), thorns);
            }
            CHECK.due("none to pull", x.pull(0), LameLead.LATE);
            CHECK.due("he still has none", x.man(0, 2), 0);
            CHECK.due("his speed", x.man(0, 3), 9);
            CHECK.due("acts", x.about(9), 9);
            CHECK.due("another one has one", x.pull(1), 0);
            CHECK.due("gravel", x.gravel(0), 1);
            CHECK.due("one to pull again", x.pull(0), 0);
        }
    }

    /** pull: "UNKNOWN". */
    private static void pullUnknown() {
        for (int men = 0; men <= 5; men++) {
            LameLead x = Check.of("A" + "M531".repeat(men));
            for (int man = 0; man < 5; man++) {
                CHECK.due("pull(" + man + ") of " + men, x.pull(man), man < men ? 0 : LameLead.UNKNOWN);
            }
            for (int man : NOBODY) {
                CHECK.due("pull(" + man + ") of " + men, x.pull(man), LameLead.UNKNOWN);
            }
            CHECK.due("acts", x.about(9), men);
        }
    }

    /** "LATE: there is none." */
    private static void undoOfNone() {
        LameLead x = Check.of("AS90M503");
        CHECK.due("none yet", x.undo(), LameLead.LATE);
        x.day();
        CHECK.due("one", x.undo(), 0);
        CHECK.due("none left", x.undo(), LameLead.LATE);
        CHECK.due("none left again", x.undo(), LameLead.LATE);
        CHECK.due("mile", x.about(3), 0);
        CHECK.due("acts", x.about(9), 0);
        CHECK.due("no act of nobody either", new LameLead().undo(), LameLead.LATE);
    }

    /** "ACTS .. are a row (14 at most": the first of 14 can be undone. */
    private static void fourteenActs() {
        LameLead x = Check.of("A" + FAR + "M100");
        for (int acts = 1; acts <= 14; acts++) {
            x.day();
            CHECK.due("acts", x.about(9), acts);
        }
        for (int left = 13; left >= 0; left--) {
            CHECK.due("undo", x.undo(), left);
            CHECK.due("mile", x.about(3), left);
            CHECK.due("day", x.about(4), left);
        }
        CHECK.due("none left", x.undo(), LameLead.LATE);
    }

    /** "when it is full, the first one is forgotten)". */
    private static void fifteenthForgetsTheFirst() {
        for (int more = 1; more <= 16; more++) {
            LameLead x = Check.of("A" + FAR + "M100");
            times(14 + more, x::day);
            CHECK.due("14 at most", x.about(9), 14);
            times(13, x::undo);
            CHECK.due("the last one left", x.undo(), 0);
            CHECK.due("what was forgotten stays", x.about(3), more);
            CHECK.due("what was forgotten stays", x.about(4), more);
            CHECK.due("none left", x.undo(), LameLead.LATE);
        }
        LameLead room = Check.of("A" + FAR + "M100");
        times(15, room::day);
        CHECK.due("one undone", room.undo(), 13);
        room.halt();
        CHECK.due("room for one", room.about(9), 14);
        times(14, room::undo);
        CHECK.due("only the first one was forgotten", room.about(4), 1);
    }

    /** "What is refused changes nothing": with a full row it forgets nothing either. */
    private static void refusedIsNoAct() {
        LameLead x = Check.of("A" + FAR + "M100M139");
        times(14, x::day);
        x.gravel(1);
        x.gravel(2);
        x.gravel(-1);
        x.pull(0);
        x.pull(5);
        x.again(0);
        x.again(2);
        x.keep(2);
        CHECK.due("acts", x.about(9), 14);
        times(14, x::undo);
        CHECK.due("the first one can be undone", x.about(4), 0);
        CHECK.due("and is at mile 0", x.about(3), 0);
    }

    /** "ACTS (DAYS, HALTS, GRAVEL, PULLED)": each is undone whole, at the edges of THORNS and of the road, too. */
    private static void undoEachKind() {
        LameLead x = Check.of("AS10S13M138M509");
        String first = Check.look(x);
        x.gravel(0);
        x.undo();
        CHECK.isSo("gravel to 9", first.equals(Check.look(x)));
        x.halt();
        x.undo();
        CHECK.isSo("halt", first.equals(Check.look(x)));
        x.day();
        String second = Check.look(x);
        x.day();
        String there = Check.look(x);
        CHECK.due("there with a thorn more", x.man(0, 2), 9);
        x.day();
        CHECK.due("healed on day 2", x.man(1, 2), 8);
        CHECK.due("undo of a day when there", x.undo(), 2);
        CHECK.isSo("a day when there", there.equals(Check.look(x)));
        CHECK.due("undo of the last mile", x.undo(), 1);
        CHECK.isSo("the last mile", second.equals(Check.look(x)));
        x.pull(1);
        CHECK.due("undo of pulled", x.undo(), 1);
        CHECK.isSo("pulled", second.equals(Check.look(x)));
    }

    /** undo brings back the MILE, THORNS, THE DAY, and no more. */
    private static void undoLeavesTheRest() {
        LameLead x = Check.of("AS90M500");
        x.day();
        x.attempt(0, 5, 1);
        x.seed(7);
        x.write('S');
        x.keep(0);
        CHECK.due("undo", x.undo(), 0);
        CHECK.due("tried", x.about(10), 1);
        CHECK.due("bytes", x.about(11), 9);
        CHECK.due("seed", x.seed(0), 7);
        CHECK.due("kept", x.again(0), 1);
        CHECK.due("mile as kept", x.about(3), 5);
    }

    /** "SLOTS 0 .. 1"; "UNKNOWN". */
    private static void slotsKnown() {
        LameLead x = Check.of("AS90M100");
        for (int slot : new int[] {Integer.MIN_VALUE, -9, -1, 2, 3, Integer.MAX_VALUE}) {
            CHECK.due("keep(" + slot + ")", x.keep(slot), LameLead.UNKNOWN);
            CHECK.due("again(" + slot + "), unknown ahead of late", x.again(slot), LameLead.UNKNOWN);
        }
        CHECK.due("again(0)", x.again(0), LameLead.LATE);
        CHECK.due("again(1)", x.again(1), LameLead.LATE);
        CHECK.due("keep(0)", x.keep(0), 0);
        CHECK.due("keep(1)", x.keep(1), 0);
    }

    /** "LATE: none were kept." */
    private static void againLate() {
        for (int slot = 0; slot <= 1; slot++) {
            LameLead x = Check.of("AS90M100");
            x.keep(1 - slot);
            x.day();
            CHECK.due("the other slot", x.again(slot), LameLead.LATE);
            CHECK.due("mile", x.about(3), 1);
            CHECK.due("the act stays", x.about(9), 1);
            CHECK.due("the slot", x.again(1 - slot), 0);
            CHECK.due("mile", x.about(3), 0);
        }
    }

    /** "(no ACTS when one goes on)": the keeping leaves them. */
    private static void againForgetsActs() {
        LameLead x = Check.of("A" + FAR + "M100");
        times(20, x::day);
        CHECK.due("keep", x.keep(0), 20);
        CHECK.due("acts stay", x.about(9), 14);
        CHECK.due("again", x.again(0), 20);
        CHECK.due("no acts", x.about(9), 0);
        CHECK.due("nothing to undo", x.undo(), LameLead.LATE);
        x.day();
        CHECK.due("acts from now on", x.undo(), 0);
        CHECK.due("back to what was kept", x.about(4), 20);
    }

    /** "They are as they were kept": again and again, and till they are kept anew. */
    private static void keptStays() {
        LameLead x = Check.of("AS93M102M131");
        x.keep(0);
        x.day();
        x.keep(1);
        for (int i = 0; i < 3; i++) {
            CHECK.due("slot 0", x.again(0), 0);
            CHECK.due("mile of 0", x.about(3), 0);
            CHECK.due("thorns of 0", x.about(8), 3);
            times(3, x::day);
            CHECK.due("slot 1", x.again(1), 1);
            CHECK.due("mile of 1", x.about(3), 1);
            CHECK.due("thorns of 1", x.about(8), 4);
        }
        x.keep(0);
        CHECK.due("kept anew", x.again(0), 1);
    }

    /** "keep the MILE, THORNS, THE DAY": the least and the most of each. */
    private static void keptByWhatIsKept() {
        LameLead x = Check.of("A" + FAR + "M939M939M939M939M939");
        times(72, x::day);
        CHECK.due("keep at the end", x.keep(0), 72);
        for (int man = 0; man < 5; man++) {
            for (int i = 0; i < 9; i++) {
                x.pull(man);
            }
        }
        CHECK.due("no thorns", x.about(8), 0);
        x.keep(1);
        CHECK.due("again", x.again(0), 72);
        CHECK.due("mile 72", x.about(3), 72);
        for (int man = 0; man < 5; man++) {
            CHECK.due("9 thorns of " + man, x.man(man, 2), 9);
        }
        CHECK.due("the other one", x.again(1), 72);
        CHECK.due("no thorns", x.about(8), 0);
        for (int man = 0; man < 5; man++) {
            LameLead one = Check.of("AM130M130M130M130M130");
            one.gravel(man);
            one.keep(0);
            one.pull(man);
            CHECK.due("on day 0 at mile 0", one.again(0), 0);
            CHECK.due("with one thorn", one.man(man, 2), 1);
        }
    }

    /** "what was kept is gone" by a new ARMY, not by one that is LATE, by a wipe, or by undo. */
    private static void keptLate() {
        LameLead x = Check.of("AS90M100");
        x.day();
        x.keep(0);
        x.keep(1);
        x.undo();
        x.write('?');
        CHECK.due("late", x.army(), LameLead.LATE);
        x.wipe();
        CHECK.due("slot 0 stays", x.again(0), 1);
        CHECK.due("slot 1 stays", x.again(1), 1);
        x.write('A');
        x.army();
        CHECK.due("slot 0 is gone", x.again(0), LameLead.LATE);
        CHECK.due("slot 1 is gone", x.again(1), LameLead.LATE);
        x.keep(1);
        CHECK.due("kept by nobody", x.again(1), 0);
    }
}
