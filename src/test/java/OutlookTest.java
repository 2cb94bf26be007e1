/** Promises 14 to 20: days to come, cures, plans, told doings, shares; none of them changes anything. */
public final class OutlookTest {
    private static final Check CHECK = new Check();
    private static final String RIVER_54 = "S92S92S92S92S92S92";

    public static void main(String[] args) {
        later();
        comes();
        leads();
        cure();
        plan();
        judge();
        judgeWrong();
        share();
        nothingChanges();
        CHECK.end("OutlookTest");
    }

    private static void later() {
        LameLead x = Check.of("AS93S90M500M600");
        int[] miles = {0, 5, 8, 9, 10, 11, 12, 15, 18};
        for (int n = 0; n < miles.length; n++) {
            CHECK.due("mile in " + n, x.later(n, 0), miles[n]);
            CHECK.due("leader in " + n, x.later(n, 1), 0);
        }
        CHECK.due("mile in 40", x.later(40, 0), 18);
        LameLead healed = Check.of("AS90S90M700M901");
        CHECK.due("alike now", healed.later(0, 1), 0);
        LameLead lame = Check.of("AS90S90S90M600M901M902");
        CHECK.due("leader till healed", lame.later(2, 1), 2);
        CHECK.due("leader when healed", lame.later(3, 1), 0);
        CHECK.due("leader when there", lame.later(40, 1), 0);
        CHECK.due("no leader", new LameLead().later(40, 1), LameLead.NONE);
        CHECK.due("later(-1, 0)", x.later(-1, 0), LameLead.BAD);
        CHECK.due("later(41, 0)", x.later(41, 0), LameLead.BAD);
        CHECK.due("later(0, 2)", x.later(0, 2), LameLead.BAD);
        CHECK.due("later(0, -1)", x.later(0, -1), LameLead.BAD);
        CHECK.due("later(max, max)", x.later(Integer.MAX_VALUE, Integer.MAX_VALUE), LameLead.BAD);
    }

    private static void comes() {
        LameLead x = Check.of("AS90M700");
        CHECK.due("comes", x.comes(), 2);
        x.day();
        CHECK.due("comes behind a day", x.comes(), 1);
        x.day();
        CHECK.due("comes when there", x.comes(), 0);
        CHECK.due("in 60 days", Check.of("A" + RIVER_54 + "S62M900").comes(), 60);
        CHECK.due("in 61 days", Check.of("A" + RIVER_54 + "S72M900").comes(), LameLead.NONE);
        CHECK.due("nobody goes", Check.of("AS10").comes(), LameLead.NONE);
        CHECK.due("nobody, no road", Check.of("A").comes(), 0);
    }

    private static void leads() {
        LameLead x = Check.of("AS90S90S90M600M901M902");
        CHECK.due("when the other is healed", x.leads(0), 3);
        CHECK.due("never", x.leads(1), LameLead.NONE);
        CHECK.due("now", x.leads(2), 0);
        LameLead edge = Check.of("AS93S73M900M929");
        edge.halt();
        CHECK.due("in 41 days", edge.leads(0), LameLead.NONE);
        edge.day();
        CHECK.due("in 40 days", edge.leads(0), 40);
        CHECK.due("leads(3)", x.leads(3), LameLead.UNKNOWN);
        CHECK.due("leads(-1)", x.leads(-1), LameLead.UNKNOWN);
        CHECK.due("leads(-9)", new LameLead().leads(LameLead.NONE), LameLead.UNKNOWN);
    }

    private static void cure() {
        LameLead only = Check.of("AS90M900M701");
        CHECK.due("who", only.cure(0), 1);
        CHECK.due("in how many", only.cure(1), 2);
        LameLead alike = Check.of("AS90M901M901");
        CHECK.due("of like ones the least", alike.cure(0), 0);
        CHECK.due("in how many", alike.cure(1), 2);
        // Man 0 has a thorn too, but man 1 is the one that lags.
        LameLead lags = Check.of("AS90S90M901M633");
        CHECK.due("the one that lags", lags.cure(0), 1);
        CHECK.due("by speed 2", lags.cure(1), 9);
        LameLead none = Check.of("AS90M900");
        CHECK.due("nobody has any", none.cure(0), LameLead.NONE);
        CHECK.due("nobody has any", none.cure(1), LameLead.NONE);
        LameLead far = Check.of("A" + RIVER_54 + "S72M901");
        CHECK.due("comes by none", far.cure(0), LameLead.NONE);
        CHECK.due("comes by none", far.cure(1), LameLead.NONE);
        LameLead edge = Check.of("A" + RIVER_54 + "S62M901");
        CHECK.due("in 60", edge.cure(1), 60);
        LameLead there = Check.of("AM900M101");
        CHECK.due("there", there.cure(0), 1);
        CHECK.due("there", there.cure(1), 0);
        CHECK.due("cure(2)", there.cure(2), LameLead.BAD);
        CHECK.due("cure(-1)", there.cure(-1), LameLead.BAD);
    }

    private static void plans(String text, int n, int many, int figures) {
        LameLead x = Check.of(text);
        CHECK.due(text + ": plan(" + n + ", 0)", x.plan(n, 0), many);
        CHECK.due(text + ": plan(" + n + ", 1)", x.plan(n, 1), figures);
    }

    private static void plan() {
        plans("AS90M501", 3, 0, 0);
        plans("AS90M501", 2, 1, 1);
        plans("AS90M501", 1, LameLead.NONE, LameLead.NONE);
        plans("AS60M602M602", 1, 4, 22);
        plans("AS90M932M900M911", 1, 3, 201);
        plans("AS50M904M900", 1, 2, 20);
        // Three at most of each: 9 - 2 of 4 thorns is 7.
        plans("AS70M934", 1, 3, 3);
        plans("AS80M934", 1, LameLead.NONE, LameLead.NONE);
        // One of either will do for 4 days (1, 1, 1, 3 or 2, 2, 2); only the first one's for 3.
        plans("AS60M301M431", 4, 1, 1);
        plans("AS60M301M431", 3, 1, 10);
        plans("AS60M301M431", 5, 0, 0);
        plans("AS90M939M939M939M939M939", 1, LameLead.NONE, LameLead.NONE);
        plans("AS90M933M933M933M933M933", 1, 15, 33333);
        plans("AS90", 20, LameLead.NONE, LameLead.NONE);
        plans("A", 0, 0, 0);
        plans("AM939", 0, 0, 0);
        plans("AS92S92S22M901", 20, 0, 0);
        plans("AS92S92S22M901", 19, LameLead.NONE, LameLead.NONE);
        LameLead x = Check.of("AS90M501");
        CHECK.due("plan(-1, 0)", x.plan(-1, 0), LameLead.BAD);
        CHECK.due("plan(21, 0)", x.plan(21, 0), LameLead.BAD);
        CHECK.due("plan(2, 2)", x.plan(2, 2), LameLead.BAD);
        CHECK.due("plan(2, -1)", x.plan(2, -1), LameLead.BAD);
    }

    private static void judges(String text, int n, long row, int due) {
        CHECK.due(text + ": judge(" + n + ", " + row + ")", Check.of(text).judge(n, row), due);
    }

    private static void judge() {
        String text = "AS93S90M500M638";
        judges(text, 1, 0, LameLead.NONE);
        judges(text, 1, 100, LameLead.NONE);
        judges(text, 1, 200, LameLead.NONE);
        judges(text, 1, 201, LameLead.NONE);
        judges(text, 2, 201_201, 1);
        judges(text, 1, 202, 0);
        judges(text, 1, 300, 0);
        judges(text, 2, 200_300, LameLead.NONE);
        judges(text, 3, 200_300_300, 2);
        judges(text, 1, 301, LameLead.NONE);
        judges(text, 1, 302, 0);
        judges(text, 1, 401, LameLead.NONE);
        judges(text, 1, 400, 0);
        judges(text, 1, 409, 0);
        judges(text, 1, 500, LameLead.NONE);
        judges(text, 1, 501, 0);
        judges(text, 1, 518, LameLead.NONE);
        judges(text, 1, 519, 0);
        judges(text, 1, 520, 0);
        judges(text, 2, 201_519, LameLead.NONE);
        judges(text, 2, 519, LameLead.NONE);
        judges(text, 1, 601, 0);
        judges(text, 2, 601, LameLead.NONE);
        judges(text, 2, 602, 1);
        // A halt heals no old one; days go on from doing to doing.
        judges(text, 4, 100_518_519_000L, 2);
        judges(text, 4, 200_100_500_501L, 3);
        judges("AS90S90M900", 2, 610, 1);
        judges("AS90S90M900", 2, 609, LameLead.NONE);
        judges("AS90S90M900", 3, 618, LameLead.NONE);
        judges("AS90S90M900", 4, 619, 3);
        judges("AS90S90M900", 3, 510, 2);
        judges("A", 4, 0, LameLead.NONE);
        judges("A", 1, 400, 0);
    }

    private static void judgeWrong() {
        String text = "AS93S90M500M638";
        int[] cannotBe = {1, 10, 99, 101, 110, 210, 211, 310, 311, 411, 700, 701, 800, 999};
        for (int doing : cannotBe) {
            judges(text, 1, doing, 0);
            judges(text, 2, 100_000L + doing, 1);
        }
        judges(text, 0, 0, LameLead.BAD);
        judges(text, -1, 0, LameLead.BAD);
        judges(text, 5, 0, LameLead.BAD);
        judges(text, Integer.MAX_VALUE, 0, LameLead.BAD);
        judges(text, Integer.MIN_VALUE, 0, LameLead.BAD);
        judges(text, 1, -1, LameLead.BAD);
        judges(text, 1, 999, 0);
        judges(text, 1, 1000, LameLead.BAD);
        judges(text, 2, 999_999, 0);
        judges(text, 2, 1_000_000, LameLead.BAD);
        judges(text, 3, 999_999_999, 0);
        judges(text, 3, 1_000_000_000, LameLead.BAD);
        judges(text, 4, 999_999_999_999L, 0);
        judges(text, 4, 1_000_000_000_000L, LameLead.BAD);
        judges(text, 4, Long.MAX_VALUE, LameLead.BAD);
        judges(text, 4, Long.MIN_VALUE, LameLead.BAD);
    }

    private static void shares(String text, int man, int above, int below) {
        LameLead x = Check.of(text);
        CHECK.due(text + ": share of " + man + " above", x.share(man, true), above);
        CHECK.due(text + ": share of " + man + " below", x.share(man, false), below);
    }

    private static void share() {
        shares("AS90M300", 0, 0, 1);
        shares("AS90S90S90M300", 0, 12, 1);
        shares("AS90S90S90M300M500", 0, 11, 1);
        shares("AS90S90S90M300M500", 1, 1, 1);
        shares("AS90S90S90M300M400M500", 2, 2, 3);
        // In a thicket a tough leader keeps thorns from the lad: 17 miles instead of 12.
        shares("AS93S93M620M510", 0, 3, 1);
        shares("AS93S93M620M510", 1, -2, 1);
        shares("AS93S93S10M620M510", 1, -3, 2);
        shares("AM100M200", 0, 0, 1);
        shares("AS90S90S90M300M300M300M300M300", 4, 12, 5);
        LameLead x = Check.of("AS90S90S90M300M500");
        x.day();
        CHECK.due("from where they are: above", x.share(1, true), 0);
        CHECK.due("from where they are: below", x.share(1, false), 1);
        CHECK.due("share(2)", x.share(2, true), LameLead.UNKNOWN);
        CHECK.due("share(-1)", x.share(-1, false), LameLead.UNKNOWN);
    }

    private static void nothingChanges() {
        LameLead x = Check.of("AS93S92S91S90M602M511M823M937M700");
        x.day();
        x.gravel(4);
        x.attempt(1, 1, 0);
        x.seed(5);
        String ahead = Check.look(x);
        x.later(40, 0);
        x.later(40, 1);
        x.comes();
        x.leads(4);
        x.cure(0);
        x.plan(7, 1);
        x.judge(4, 200_301_100_000L);
        x.share(2, true);
        x.paces(1);
        x.rests(0, 1, 0);
        x.thorny(9, 4, true);
        CHECK.isSo("nothing is changed", ahead.equals(Check.look(x)));
        x.campaigns(30);
        x.seed(5);
        CHECK.isSo("nothing but the seed", ahead.equals(Check.look(x)));
        CHECK.due("acts stay", x.undo(), 1);
        CHECK.due("all men are there again", x.later(0, 1), x.about(5));
    }
}
