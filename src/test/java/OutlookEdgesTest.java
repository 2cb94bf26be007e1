/** Boundary cases of promises 14 to 20; the comment of each test is the sentence that it holds to. */
public final class OutlookEdgesTest {
    private static final Check CHECK = new Check();
    private static final String FAR = "S90S90S90S90S90S90S90S90";
    private static final String RIVER_54 = "S92S92S92S92S92S92";
    private static final int[] BELOW = {Integer.MIN_VALUE, Integer.MIN_VALUE + 1, -10, -9, -2, -1};
    private static final int[] NO_CHOICE = {Integer.MIN_VALUE, -9, -1, 2, 3, Integer.MAX_VALUE};
    private static final int[] NOBODY = {Integer.MIN_VALUE, -9, -1, 5, 8, Integer.MAX_VALUE};

    public static void main(String[] args) {
        laterTaken();
        laterRefused();
        laterOfNobody();
        laterStaysThere();
        comesNow();
        comesInSixty();
        comesNever();
        leadsNow();
        leadsInForty();
        leadsUnknown();
        cureNone();
        cureInSixty();
        cureByOneAlone();
        cureOfLikeOnes();
        cureOfOldOnes();
        cureWhenThere();
        cureRefused();
        planInNoDays();
        planInTwenty();
        planThreeOfEach();
        planNoMoreThanHeHas();
        planOfLikeOnes();
        planOfNobody();
        planRefused();
        judgedCounts();
        judgedRows();
        judgedExtremes();
        judgedGravel();
        judgedPulled();
        judgedLeads();
        judgedThorns();
        judgedMile();
        judgedDaysAndHalts();
        judgedNoSuchDoing();
        judgedFirstPlace();
        shareOfOne();
        shareInFiveDays();
        shareLessThanNone();
        shareInLeastTerms();
        shareUnknown();
        CHECK.end("OutlookEdgesTest");
    }

    private static void days(LameLead x, int n) {
        for (int i = 0; i < n; i++) {
            x.day();
        }
    }

    /** "IN n DAYS (0 .. 40), one DAY after the other". */
    private static void laterTaken() {
        LameLead x = Check.of("A" + FAR + "M130M900");
        CHECK.due("in 0 days", x.later(0, 0), 0);
        CHECK.due("in 1 day", x.later(1, 0), 1);
        CHECK.due("in 39 days", x.later(39, 0), 39);
        CHECK.due("in 40 days", x.later(40, 0), 40);
        CHECK.due("leader in 0 days", x.later(0, 1), 0);
        CHECK.due("leader in 40 days", x.later(40, 1), 0);
        days(x, 30);
        CHECK.due("from where they are", x.later(0, 0), 30);
        CHECK.due("from where they are, in 40", x.later(40, 0), 70);
        LameLead heals = Check.of("A" + FAR + "M800M909");
        heals.day();
        CHECK.due("day 26: still slow", heals.later(25, 1), 1);
        CHECK.due("27 days heal 9 thorns", heals.later(26, 1), 0);
    }

    /** later: "BAD: n, what." */
    private static void laterRefused() {
        LameLead x = Check.of("A" + FAR + "M130M900");
        for (int what = 0; what <= 1; what++) {
            for (int n : BELOW) {
                CHECK.due("later(" + n + ", " + what + ")", x.later(n, what), LameLead.BAD);
            }
            CHECK.due("later(41, " + what + ")", x.later(41, what), LameLead.BAD);
            CHECK.due("later(max, " + what + ")", x.later(Integer.MAX_VALUE, what), LameLead.BAD);
        }
        for (int what : NO_CHOICE) {
            CHECK.due("later(0, " + what + ")", x.later(0, what), LameLead.BAD);
            CHECK.due("later(40, " + what + ")", x.later(40, what), LameLead.BAD);
            CHECK.due("later(41, " + what + ")", x.later(41, what), LameLead.BAD);
        }
        CHECK.due("nothing changed", x.about(4), 0);
    }

    /** "THE LEADER (NONE)". */
    private static void laterOfNobody() {
        for (LameLead x : new LameLead[] {new LameLead(), Check.of("A"), Check.of("AS93")}) {
            for (int n : new int[] {0, 1, 40}) {
                CHECK.due("mile in " + n, x.later(n, 0), 0);
                CHECK.due("leader in " + n, x.later(n, 1), LameLead.NONE);
            }
        }
    }

    private static void laterStaysThere() {
        LameLead x = Check.of("AS93M900M901");
        CHECK.due("there in 2", x.later(2, 0), 9);
        CHECK.due("no farther in 40", x.later(40, 0), 9);
        CHECK.due("healed there, so the least leads", x.later(40, 1), 0);
        CHECK.due("no road", Check.of("AM900").later(40, 0), 0);
    }

    /** "COMES: in how many DAYS (0 .. 60) it is THERE first": 0, when it is. */
    private static void comesNow() {
        CHECK.due("no road, nobody", new LameLead().comes(), 0);
        CHECK.due("no road", Check.of("AM139").comes(), 0);
        LameLead x = Check.of("AS10M139");
        CHECK.due("a mile", x.comes(), 1);
        x.day();
        CHECK.due("there", x.comes(), 0);
        x.day();
        CHECK.due("there for a day", x.comes(), 0);
    }

    private static void comesInSixty() {
        CHECK.due("59 miles", Check.of("A" + RIVER_54 + "S52M900").comes(), 59);
        CHECK.due("60 miles", Check.of("A" + RIVER_54 + "S62M900").comes(), 60);
        CHECK.due("61 miles", Check.of("A" + RIVER_54 + "S72M900").comes(), LameLead.NONE);
        LameLead x = Check.of("A" + FAR + "M139");
        CHECK.due("72 miles", x.comes(), LameLead.NONE);
        days(x, 11);
        CHECK.due("61 left", x.comes(), LameLead.NONE);
        x.day();
        CHECK.due("60 left", x.comes(), 60);
        x.undo();
        CHECK.due("61 left again", x.comes(), LameLead.NONE);
    }

    /** COMES: "NONE." */
    private static void comesNever() {
        CHECK.due("nobody goes a mile", Check.of("AS10").comes(), LameLead.NONE);
        CHECK.due("nobody goes far", Check.of("A" + FAR).comes(), LameLead.NONE);
    }

    /** "LEADS of a MAN: in how many DAYS .. (0: now)". */
    private static void leadsNow() {
        LameLead x = Check.of("AM500M500M400M400");
        int[] due = {LameLead.NONE, LameLead.NONE, 0, LameLead.NONE};
        for (int man = 0; man < due.length; man++) {
            CHECK.due("leads(" + man + ")", x.leads(man), due[man]);
        }
        CHECK.due("the only one", Check.of("AM939").leads(0), 0);
    }

    /** "(0 .. 40) he is THE LEADER first ..; NONE." */
    private static void leadsInForty() {
        // In the thicket the lad picks up thorns as fast as they heal, so that man 0 leads late.
        LameLead x = Check.of("AS93S73M900M929");
        x.halt();
        CHECK.due("not in 40", x.leads(0), LameLead.NONE);
        CHECK.due("nor by later", x.later(40, 1), 1);
        x.day();
        CHECK.due("in 40", x.leads(0), 40);
        CHECK.due("by later, too", x.later(40, 1), 0);
        CHECK.due("and not in 39", x.later(39, 1), 1);
        x.day();
        CHECK.due("in 39", x.leads(0), 39);
    }

    /** leads: "UNKNOWN." */
    private static void leadsUnknown() {
        for (int men = 0; men <= 5; men++) {
            LameLead x = Check.of("A" + "M700".repeat(men));
            for (int man = 0; man < 5; man++) {
                int due = man >= men ? LameLead.UNKNOWN : man == 0 ? 0 : LameLead.NONE;
                CHECK.due("leads(" + man + ") of " + men, x.leads(man), due);
            }
            for (int man : NOBODY) {
                CHECK.due("leads(" + man + ") of " + men, x.leads(man), LameLead.UNKNOWN);
            }
        }
    }

    private static void cures(String text, int who, int days) {
        LameLead x = Check.of(text);
        CHECK.due(text + ": cure(0)", x.cure(0), who);
        CHECK.due(text + ": cure(1)", x.cure(1), days);
    }

    /** "NONE: nobody has any, or it COMES by none." */
    private static void cureNone() {
        cures("A", LameLead.NONE, LameLead.NONE);
        cures("AS90", LameLead.NONE, LameLead.NONE);
        cures("AS90M900M910M920M930", LameLead.NONE, LameLead.NONE);
        cures("A" + RIVER_54 + "S72M901M939", LameLead.NONE, LameLead.NONE);
        LameLead x = Check.of("AS90M901");
        x.pull(0);
        CHECK.due("the last one is pulled", x.cure(0), LameLead.NONE);
    }

    /** "by whom PULLED once now it COMES": in 60 DAYS at most. */
    private static void cureInSixty() {
        cures("A" + RIVER_54 + "S62M909", 0, 60);
        cures("A" + RIVER_54 + "S72M909", LameLead.NONE, LameLead.NONE);
    }

    /** By MAN 0 they need 72 DAYS; only by MAN 1 they come. */
    private static void cureByOneAlone() {
        cures("A" + FAR + "M901M331", 1, 24);
        cures("A" + FAR + "M331M901", 0, 24);
    }

    /** "of like ones the least". */
    private static void cureOfLikeOnes() {
        cures("AS90M901M901M901M901M901", 0, 2);
        cures("AS90M900M901M901M901M901", 1, 2);
        cures("AS10M100M100M100M100M101", 4, 1);
        // Man 1 leads at speed 3 whatever is pulled: neither thorn helps, and man 0 is the least.
        cures("AS90M911M300M731", 0, 3);
    }

    /** PULLED: "(OLD ones, too)". */
    private static void cureOfOldOnes() {
        cures("AS90S90M331M900", 0, 6);
        cures("AS90M139", 0, 9);
    }

    private static void cureWhenThere() {
        cures("AM900M139", 1, 0);
        LameLead x = Check.of("AS10M100M909");
        x.day();
        CHECK.due("there: who", x.cure(0), 1);
        CHECK.due("there: in none", x.cure(1), 0);
    }

    /** cure: "BAD." */
    private static void cureRefused() {
        for (LameLead x : new LameLead[] {new LameLead(), Check.of("AS90M901")}) {
            for (int what : NO_CHOICE) {
                CHECK.due("cure(" + what + ")", x.cure(what), LameLead.BAD);
            }
        }
    }

    private static void plans(String text, int n, int many, int figures) {
        LameLead x = Check.of(text);
        CHECK.due(text + ": plan(" + n + ", 0)", x.plan(n, 0), many);
        CHECK.due(text + ": plan(" + n + ", 1)", x.plan(n, 1), figures);
    }

    /** "PLAN for n DAYS (0 .. 20)": in none only what is THERE. */
    private static void planInNoDays() {
        plans("AM939", 0, 0, 0);
        plans("AS10M909", 0, LameLead.NONE, LameLead.NONE);
        plans("AS10M909", 1, 0, 0);
        LameLead x = Check.of("AS10M109");
        x.day();
        CHECK.due("there", x.plan(0, 0), 0);
        CHECK.due("there", x.plan(0, 1), 0);
    }

    private static void planInTwenty() {
        plans("AS92S92S22M939", 20, 0, 0);
        plans("AS92S92S32M939", 20, LameLead.NONE, LameLead.NONE);
        // Old ones of 1 mile a day need 21 days for 21 miles, but one thorn less is 3 miles a day.
        plans("AS90S90S20M331", 20, 0, 0);
        plans("AS90S90S30M331", 20, 1, 1);
    }

    /** "0 .. 3 THORNS of each MAN". */
    private static void planThreeOfEach() {
        plans("AS10M939M939M939M939M939", 1, 0, 0);
        plans("AS70M934", 1, 3, 3);
        plans("AS80M934", 1, LameLead.NONE, LameLead.NONE);
        plans("AS30M936", 1, 3, 3);
        plans("AS30M937", 1, LameLead.NONE, LameLead.NONE);
        plans("AS90M933M933M933M933M933", 1, 15, 33333);
        plans("AS90M933M933M933M933M934", 1, LameLead.NONE, LameLead.NONE);
    }

    /** "(no more than he has)". */
    private static void planNoMoreThanHeHas() {
        plans("AS90M931", 1, 1, 1);
        plans("AS90M932", 1, 2, 2);
        plans("AS90M933", 1, 3, 3);
        plans("AS90M830", 1, LameLead.NONE, LameLead.NONE);
        plans("AS90M832", 1, LameLead.NONE, LameLead.NONE);
        plans("AS90M931M932M933M930M931", 1, 7, 12301);
    }

    /** "that of fewest ..; of like ones the least (figures, MAN by MAN)". */
    private static void planOfLikeOnes() {
        // Speeds 1 and 2: 1, 1, 1 and 2 a day; by man 1's thorn 1, 1, 1, 3, by man 0's 2, 2, 2, by both 3, 3.
        plans("AS60M301M431", 5, 0, 0);
        plans("AS60M301M431", 4, 1, 1);
        plans("AS60M301M431", 3, 1, 10);
        plans("AS60M301M431", 2, 2, 11);
        plans("AS90M901M901M901M901M901", 2, 0, 0);
        plans("AS90M901M901M901M901M901", 1, 5, 11111);
        plans("AS60M631M900", 1, 1, 10);
        // Two of man 1 (02) would do: 1, 1, 1, 3, 3, 3, 6; but one of man 0 (10) is fewer: 3 a day.
        plans("AS90S90M923M933", 7, 1, 10);
    }

    private static void planOfNobody() {
        plans("A", 0, 0, 0);
        plans("A", 20, 0, 0);
        plans("AS10", 20, LameLead.NONE, LameLead.NONE);
    }

    /** plan: "BAD: n, what." */
    private static void planRefused() {
        for (LameLead x : new LameLead[] {new LameLead(), Check.of("AS10"), Check.of("AS90M933")}) {
            for (int n : BELOW) {
                CHECK.due("plan(" + n + ", 0)", x.plan(n, 0), LameLead.BAD);
                CHECK.due("plan(" + n + ", 1)", x.plan(n, 1), LameLead.BAD);
            }
            CHECK.due("plan(21, 0)", x.plan(21, 0), LameLead.BAD);
            CHECK.due("plan(21, 1)", x.plan(21, 1), LameLead.BAD);
            CHECK.due("plan(max, 1)", x.plan(Integer.MAX_VALUE, 1), LameLead.BAD);
            for (int what : NO_CHOICE) {
                CHECK.due("plan(0, " + what + ")", x.plan(0, what), LameLead.BAD);
                CHECK.due("plan(20, " + what + ")", x.plan(20, what), LameLead.BAD);
            }
        }
    }

    private static void judges(String text, int n, long row, int due) {
        CHECK.due(text + ": judge(" + n + ", " + row + ")", Check.of(text).judge(n, row), due);
    }

    /** "n doings (1 .. 4)"; "BAD: n". */
    private static void judgedCounts() {
        LameLead x = Check.of("AS90M500");
        for (int n = 1; n <= 4; n++) {
            CHECK.due("judge(" + n + ", 0)", x.judge(n, 0), LameLead.NONE);
        }
        for (int n : new int[] {Integer.MIN_VALUE, -9, -1, 0, 5, 6, Integer.MAX_VALUE}) {
            CHECK.due("judge(" + n + ", 0)", x.judge(n, 0), LameLead.BAD);
        }
    }

    /** "BAD: .. row (0 or more, 3 n figures at most)". */
    private static void judgedRows() {
        long[] least = {1000L, 1000000L, 1000000000L, 1000000000000L};
        LameLead x = Check.of("AS90M500");
        for (int n = 1; n <= 4; n++) {
            CHECK.due("most figures of " + n, x.judge(n, least[n - 1] - 1), 0);
            CHECK.due("one figure too many of " + n, x.judge(n, least[n - 1]), LameLead.BAD);
            CHECK.due("no figure less than 0 of " + n, x.judge(n, -1), LameLead.BAD);
            CHECK.due("0 of " + n, x.judge(n, 0), LameLead.NONE);
        }
    }

    private static void judgedExtremes() {
        LameLead x = Check.of("AS90M500");
        // The lower 32 bits of the last two are 0.
        long[] bad = {Long.MIN_VALUE, Long.MIN_VALUE + 1, Long.MAX_VALUE, Integer.MIN_VALUE, 1L << 40, 1L << 62};
        for (long row : bad) {
            CHECK.due("judge(4, " + row + ")", x.judge(4, row), LameLead.BAD);
            CHECK.due("judge(0, " + row + ")", x.judge(0, row), LameLead.BAD);
        }
        CHECK.due("2 to the 32nd is too much for 3", x.judge(3, 1L << 32), LameLead.BAD);
        CHECK.due("the greatest int for 3", x.judge(3, Integer.MAX_VALUE), LameLead.BAD);
        // 2,147,483,647: the first doing is 002.
        CHECK.due("the greatest int for 4", x.judge(4, Integer.MAX_VALUE), 0);
    }

    /** "2, 0, a MAN: GRAVEL, who has fewer than 9". */
    private static void judgedGravel() {
        judges("AM108M109", 1, 200, LameLead.NONE);
        judges("AM108M109", 2, 200_200, 1);
        judges("AM108M109", 1, 201, 0);
        judges("AM108M109", 2, 301_201, LameLead.NONE);
        judges("AM108M109", 1, 202, 0);
        judges("AM108M109", 1, 209, 0);
        judges("AM100M100M100M100M100", 1, 204, LameLead.NONE);
        judges("AM100M100M100M100M100", 1, 205, 0);
        judges("A", 1, 200, 0);
    }

    /** "3, 0, a MAN: PULLED": one that has any. */
    private static void judgedPulled() {
        judges("AM131M130", 1, 300, LameLead.NONE);
        judges("AM131M130", 2, 300_300, 1);
        judges("AM131M130", 1, 301, 0);
        judges("AM131M130", 2, 201_301, LameLead.NONE);
        judges("AM131M130", 1, 302, 0);
        judges("AM131M130", 1, 309, 0);
        judges("AM101M101M101M101M101", 1, 304, LameLead.NONE);
        judges("AM101M101M101M101M101", 1, 305, 0);
        judges("A", 1, 300, 0);
    }

    /** "4, 0, a MAN: he LEADS now". */
    private static void judgedLeads() {
        judges("AM500M400M400", 1, 401, LameLead.NONE);
        judges("AM500M400M400", 1, 400, 0);
        judges("AM500M400M400", 1, 402, 0);
        judges("AM500M400M400", 2, 202_402, LameLead.NONE);
        judges("AM500M400M400", 1, 403, 0);
        judges("AM500M400M400", 1, 409, 0);
        judges("A", 1, 400, 0);
        judges("A", 1, 409, 0);
    }

    /** "5, a MAN, v: he has v THORNS or more". */
    private static void judgedThorns() {
        for (int v = 0; v <= 9; v++) {
            judges("AM900M105M139", 1, 500 + v, v <= 0 ? LameLead.NONE : 0);
            judges("AM900M105M139", 1, 510 + v, v <= 5 ? LameLead.NONE : 0);
            judges("AM900M105M139", 1, 520 + v, LameLead.NONE);
            judges("AM900M105M139", 1, 530 + v, 0);
            judges("AM900M105M139", 1, 590 + v, 0);
            judges("A", 1, 500 + v, 0);
        }
        judges("AM100M100M100M100M101", 1, 541, LameLead.NONE);
        judges("AM100M100M100M100M101", 1, 550, 0);
    }

    /** "6, a figure, a figure: it is at MILE 10 times the one and the other, or farther". */
    private static void judgedMile() {
        LameLead x = Check.of("A" + FAR + "M900");
        CHECK.due("mile 0", x.judge(1, 600), LameLead.NONE);
        CHECK.due("mile 1 not yet", x.judge(1, 601), 0);
        days(x, 7);
        CHECK.due("at 63", x.judge(1, 663), LameLead.NONE);
        CHECK.due("not at 64", x.judge(1, 664), 0);
        CHECK.due("at 72 behind a day", x.judge(2, 672), LameLead.NONE);
        CHECK.due("never at 73", x.judge(2, 673), 1);
        CHECK.due("never at 99", x.judge(4, 699), 3);
        CHECK.due("farther than 9", x.judge(1, 609), LameLead.NONE);
    }

    /** "0, 0, 0: A DAY; 1, 0, 0: A HALT": they can always be, THERE and of nobody, too. */
    private static void judgedDaysAndHalts() {
        judges("A", 4, 100_000_100L, LameLead.NONE);
        judges("AS10M100", 4, 100_000_000_000L, LameLead.NONE);
        judges("AS90M103M133", 3, 100_502_503L, 2);
        judges("AS90M103M133", 2, 100_513L, LameLead.NONE);
        // Behind two halts the day is 2, so that a day heals; behind one it is not.
        judges("AS90M105", 4, 100_100_000_503L, 3);
        judges("AS90M105", 4, 100_100_000_502L, LameLead.NONE);
        judges("AS90M105", 3, 100_000_504L, LameLead.NONE);
    }

    /** "the place of the first that can not be": three figures that tell no doing, too. */
    private static void judgedNoSuchDoing() {
        LameLead x = Check.of("AS90M905M905M905");
        for (int doing = 0; doing <= 99; doing++) {
            CHECK.due("doing " + doing, x.judge(1, doing), doing == 0 ? LameLead.NONE : 0);
            CHECK.due("doing " + (100 + doing), x.judge(1, 100 + doing), doing == 0 ? LameLead.NONE : 0);
        }
        for (int doing = 210; doing <= 299; doing++) {
            CHECK.due("doing " + doing, x.judge(1, doing), 0);
        }
        x = Check.of("AS90M905M905M905");
        for (int doing = 310; doing <= 399; doing++) {
            CHECK.due("doing " + doing, x.judge(1, doing), 0);
            CHECK.due("doing " + (100 + doing), x.judge(1, 100 + doing), 0);
        }
        LameLead y = Check.of("AS90M905M905M905");
        for (int doing = 700; doing <= 999; doing++) {
            CHECK.due("doing " + doing, y.judge(1, doing), 0);
        }
    }

    /** "the place of the first ..; NONE: none." */
    private static void judgedFirstPlace() {
        LameLead x = Check.of("AS90M500");
        CHECK.due("first", x.judge(4, 300_300_300_300L), 0);
        CHECK.due("second", x.judge(4, 300_300_300L), 1);
        CHECK.due("third", x.judge(4, 300_300L), 2);
        CHECK.due("fourth", x.judge(4, 300L), 3);
        CHECK.due("none", x.judge(4, 0L), LameLead.NONE);
        CHECK.due("the last of one", x.judge(1, 300L), 0);
        for (int n = 3; n >= 1; n--) {
            x.judge(4, 300_300_300_300L);
            CHECK.due("what was told of more does not count for " + n, x.judge(n, 0L), LameLead.NONE);
        }
        CHECK.due("nothing changed", x.about(4), 0);
        CHECK.due("no acts", x.about(9), 0);
    }

    private static void shares(String text, int man, int above, int below) {
        LameLead x = Check.of(text);
        CHECK.due(text + ": share(" + man + ") above", x.share(man, true), above);
        CHECK.due(text + ": share(" + man + ") below", x.share(man, false), below);
    }

    /** "of none it is at THE END". */
    private static void shareOfOne() {
        shares("A" + FAR + "M139", 0, 67, 1);
        shares("A" + FAR + "M900", 0, 27, 1);
        shares("AM900", 0, 0, 1);
        LameLead x = Check.of("AS10M900");
        x.day();
        CHECK.due("there: above", x.share(0, true), 0);
        CHECK.due("there: below", x.share(0, false), 1);
    }

    /** "behind 5 DAYS". */
    private static void shareInFiveDays() {
        shares("AS40M139", 0, 0, 1);
        shares("AS50M139", 0, 0, 1);
        shares("AS60M139", 0, 1, 1);
        shares("AS70M139", 0, 2, 1);
    }

    /** "less than 0, if they are". */
    private static void shareLessThanNone() {
        shares("AS93S93M620M510", 1, -2, 1);
        shares("AS93S93S10M620M510", 1, -3, 2);
    }

    /** "in least terms": 0 is 0, 1. */
    private static void shareInLeastTerms() {
        shares("AS50M900M900", 0, 0, 1);
        shares("AS90M100M900", 0, 4, 1);
        shares("AS90M100M900", 1, 0, 1);
        shares("AS90M100M100", 0, 2, 1);
        shares("AS90M100M100M100", 2, 4, 3);
        shares("AS90M100M100M100M100M100", 4, 4, 5);
        shares("AS60M100M100M100M100M100", 0, 1, 5);
    }

    /** share: "UNKNOWN." */
    private static void shareUnknown() {
        for (int men = 0; men <= 5; men++) {
            LameLead x = Check.of("A" + "M700".repeat(men));
            for (int man = 0; man < 5; man++) {
                CHECK.due("share(" + man + ") of " + men, x.share(man, false), man < men ? 1 : LameLead.UNKNOWN);
            }
            for (int man : NOBODY) {
                CHECK.due("share(" + man + ") of " + men, x.share(man, true), LameLead.UNKNOWN);
                CHECK.due("share(" + man + ") of " + men, x.share(man, false), LameLead.UNKNOWN);
            }
        }
    }
}
