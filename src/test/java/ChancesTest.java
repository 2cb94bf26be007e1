/** Promises 21 to 27: what is TRIED, RESTS, THORNY, THE SEED, CAMPAIGNS. */
public final class ChancesTest {
    private static final Check CHECK = new Check();

    public static void main(String[] args) {
        attempt();
        unattempt();
        paces();
        rests();
        thorny();
        seed();
        campaigns();
        CHECK.end("ChancesTest");
    }

    private static void attempt() {
        LameLead x = new LameLead();
        int[][] bad = {{-1, 1, 0}, {4, 1, 0}, {0, 0, 0}, {0, 10, 0}, {0, 1, -1}, {0, 1, 2},
            {Integer.MIN_VALUE, Integer.MAX_VALUE, 0}};
        for (int[] b : bad) {
            CHECK.due("bad attempt", x.attempt(b[0], b[1], b[2]), LameLead.BAD);
        }
        CHECK.due("none", x.about(10), 0);
        CHECK.due("attempt", x.attempt(0, 9, 1), 1);
        CHECK.due("attempt", x.attempt(3, 9, 1), 2);
        CHECK.due("the same again", x.attempt(3, 9, 1), 3);
        CHECK.due("attempt", x.attempt(3, 9, 1), 4);
        CHECK.due("attempt", x.attempt(3, 9, 1), 5);
        CHECK.due("attempt", x.attempt(3, 9, 1), 6);
        CHECK.due("six at most", x.attempt(0, 1, 1), LameLead.FULL);
        for (int[] b : bad) {
            CHECK.due("bad is told first", x.attempt(b[0], b[1], b[2]), LameLead.BAD);
        }
        CHECK.due("tried", x.about(10), 6);
        CHECK.due("what is refused changes nothing", x.paces(0), 27);
    }

    private static void unattempt() {
        LameLead x = new LameLead();
        CHECK.due("nothing", x.unattempt(), 0);
        x.attempt(0, 9, 0);
        x.attempt(0, 8, 0);
        CHECK.due("unattempt", x.unattempt(), 2);
        CHECK.due("tried", x.about(10), 0);
        CHECK.due("all fit again", x.paces(0), 27);
        CHECK.due("the first one", x.paces(1), 1);
        CHECK.due("attempt", x.attempt(0, 8, 0), 1);
        CHECK.due("only pace 9", x.paces(0), 3);
        CHECK.due("only pace 9", x.paces(1), 9);
    }

    private static void fitting(int many, int first, int[]... tried) {
        LameLead x = new LameLead();
        for (int[] t : tried) {
            x.attempt(t[0], t[1], t[2]);
        }
        CHECK.due("paces(0)", x.paces(0), many);
        CHECK.due("paces(1)", x.paces(1), first);
    }

    private static void paces() {
        fitting(27, 1);
        // Less or as much is told by 1; more than it by 0.
        fitting(15, 1, new int[] {0, 5, 1});
        fitting(12, 6, new int[] {0, 5, 0});
        fitting(3, 5, new int[] {0, 5, 1}, new int[] {0, 4, 0});
        fitting(0, LameLead.NONE, new int[] {0, 9, 0});
        fitting(0, LameLead.NONE, new int[] {0, 5, 1}, new int[] {0, 5, 0});
        // Pace 9 with 1 thorn: 7, 8, 6.
        fitting(1, 19, new int[] {1, 7, 0});
        fitting(1, 29, new int[] {1, 6, 1}, new int[] {0, 8, 0});
        // With 3 thorns only tough ones are over 3.
        fitting(3, 17, new int[] {3, 3, 0});
        // 1 at least.
        fitting(27, 1, new int[] {3, 9, 1});
        fitting(20, 1, new int[] {3, 1, 1});
        LameLead x = new LameLead();
        CHECK.due("paces(2)", x.paces(2), LameLead.BAD);
        CHECK.due("paces(-1)", x.paces(-1), LameLead.BAD);
    }

    private static void resting(String text, int one, int other, int many, int first) {
        LameLead x = Check.of(text);
        CHECK.due(text + ": rests(0)", x.rests(one, other, 0), many);
        CHECK.due(text + ": rests(1)", x.rests(one, other, 1), first);
    }

    private static void rests() {
        // None, other, one, both: the one has 19, 16, 12, 12, the other 15, 11, 9, 8.
        resting("AS90S90M500M600", 0, 1, 1, 0);
        // Old ones stay slow: 19, 12, 12, 12 and 15, 15, 9, 8.
        resting("AS90S90M530M630", 0, 1, 2, 0);
        // In a bog: 7, 3, 6, 6 and 3, 6, 3, 2: always one of them would rather change.
        resting("AS81M421M512", 0, 1, 0, LameLead.NONE);
        resting("AS81M421M512", 1, 0, 0, LameLead.NONE);
        // One who has 9 can have no more, but pays for his gravel.
        resting("AS90M539M930", 0, 1, 1, 0);
        resting("AS22M611M802", 0, 1, 1, 1);
        resting("AS22M611M802", 1, 0, 1, 10);
        resting("AS40S72M914M701", 0, 1, 1, 11);
        resting("AS50S91M801M821", 0, 1, 3, 0);
        // A third one leads, whatever they do; gravel does not pay: 3, 3, 2, 2 and 3, 2, 3, 2.
        resting("AS90M900M900M130", 0, 1, 1, 0);
        // All but there, so all go one mile: 5, 1, 4, 4 and 1, 4, 1, 0.
        resting("AS10M530M630", 0, 1, 0, LameLead.NONE);
        LameLead x = Check.of("AS90M500M600");
        CHECK.due("rests(0, 2, 0)", x.rests(0, 2, 0), LameLead.UNKNOWN);
        CHECK.due("rests(2, 0, 0)", x.rests(2, 0, 0), LameLead.UNKNOWN);
        CHECK.due("rests(-1, 0, 0)", x.rests(-1, 0, 0), LameLead.UNKNOWN);
        CHECK.due("rests(0, -1, 0)", x.rests(0, -1, 0), LameLead.UNKNOWN);
        CHECK.due("unknown is told first: both are one", x.rests(2, 2, 0), LameLead.UNKNOWN);
        CHECK.due("unknown is told first: what", x.rests(0, 2, 5), LameLead.UNKNOWN);
        CHECK.due("both are one", x.rests(1, 1, 0), LameLead.BAD);
        CHECK.due("rests(0, 1, 2)", x.rests(0, 1, 2), LameLead.BAD);
        CHECK.due("rests(0, 1, -1)", x.rests(0, 1, -1), LameLead.BAD);
    }

    private static void chance(String text, int n, int x, int above, int below) {
        LameLead lead = Check.of(text);
        CHECK.due(text + ": thorny(" + n + ", " + x + ") above", lead.thorny(n, x, true), above);
        CHECK.due(text + ": thorny(" + n + ", " + x + ") below", lead.thorny(n, x, false), below);
    }

    private static void thorny() {
        chance("AS90M500", 2, 3, 7, 10);
        chance("AS90M500", 2, 5, 1, 2);
        chance("AS90M500", 2, 0, 1, 1);
        chance("AS90M500", 2, 10, 0, 1);
        chance("AS90M500", 3, 3, 1, 1);
        chance("AS90M500", 1, 3, 0, 1);
        chance("AS90M500M500", 2, 5, 1, 4);
        chance("AS90M500M500", 2, 2, 16, 25);
        // The fast one can have a thorn: he goes 7 then.
        chance("AS90M500M900", 2, 2, 4, 5);
        chance("AS90M900M900M900M900M900", 1, 1, 59049, 100000);
        chance("AS50M500M500M500M500M500", 1, 9, 1, 100000);
        // 9 at most: no slower by one more.
        chance("AS20M139", 2, 5, 1, 1);
        chance("A", 0, 5, 1, 1);
        chance("AS10", 20, 5, 0, 1);
        chance("AS92S92S22M900", 20, 5, 1, 1);
        chance("AS92S92S22M900", 19, 5, 0, 1);
        LameLead lead = Check.of("AS90M500");
        CHECK.due("thorny(-1, 0)", lead.thorny(-1, 0, true), LameLead.BAD);
        CHECK.due("thorny(21, 0)", lead.thorny(21, 0, true), LameLead.BAD);
        CHECK.due("thorny(0, -1)", lead.thorny(0, -1, false), LameLead.BAD);
        CHECK.due("thorny(0, 11)", lead.thorny(0, 11, false), LameLead.BAD);
    }

    private static void seed() {
        LameLead x = new LameLead();
        CHECK.due("0 at first", x.seed(Long.MIN_VALUE), 0);
        CHECK.due("what it was", x.seed(-1), Long.MIN_VALUE);
        CHECK.due("what it was", x.seed(Long.MAX_VALUE), -1);
        CHECK.due("what it was", x.seed(0), Long.MAX_VALUE);
        x.campaigns(1);
        CHECK.due("one step from 0", x.seed(0), 1442695040888963407L);
        x.campaigns(2);
        CHECK.due("two steps from 0", x.seed(0), 1442695040888963407L * 6364136223846793005L + 1442695040888963407L);
    }

    private static int lotOf(long seed) {
        return (int) Long.remainderUnsigned(seed >>> 33, 20);
    }

    /** A seed by which the first lot is this one and the second a day: found by trying them one by one. */
    private static long seedFor(int lot) {
        for (long seed = 0; seed < 100_000; seed++) {
            long first = seed * 6364136223846793005L + 1442695040888963407L;
            long second = first * 6364136223846793005L + 1442695040888963407L;
            if (lotOf(first) == lot && lotOf(second) >= 11) {
                return seed;
            }
        }
        throw new IllegalStateException("no seed for " + lot);
    }

    /** How far they come by each lot (those of days as the last one) and a day behind it. */
    private static void lots(String text, int... miles) {
        LameLead x = Check.of(text);
        for (int lot = 0; lot < 20; lot++) {
            int first = lot < 11 ? 0 : miles[11];
            int second = miles[Math.min(lot, 11)] + first;
            x.seed(seedFor(lot));
            CHECK.due(text + ": lot " + lot, x.campaigns(1), first);
            x.seed(seedFor(lot));
            CHECK.due(text + ": lot " + lot + " and a day", x.campaigns(2), first + second);
        }
    }

    private static void campaigns() {
        LameLead there = Check.of("AS50M500");
        there.day();
        CHECK.due("at the end", there.campaigns(30), 150);
        lots("AS90S90M400", 2, 4, 4, 4, 4, 4, 4, 4, 4, 4, 4, 4);
        lots("AS90S90M501M732", 1, 1, 3, 3, 3, 3, 3, 3, 3, 3, 3, 3);
        lots("AS90S90M501M900", 1, 3, 3, 3, 3, 5, 3, 3, 3, 3, 5, 3);
        lots("AS90S90M900M531", 3, 1, 3, 3, 3, 3, 5, 3, 3, 3, 3, 3);
        lots("AS90S90M400M400M400M400M400", 2, 2, 2, 2, 2, 4, 4, 4, 4, 4, 4, 4);
        lots("AS90S90M900M900M900M900M931", 7, 7, 7, 7, 5, 7, 7, 7, 7, 9, 7, 7);
        LameLead x = Check.of("AS90S90M400M732");
        x.seed(12345);
        int together = x.campaigns(30);
        long behind = x.seed(12345);
        int oneByOne = x.campaigns(1);
        CHECK.isSo("each call starts from where they are", oneByOne <= 4);
        x.seed(12345);
        CHECK.due("the same seed, the same campaigns", x.campaigns(30), together);
        CHECK.due("the same seed behind", x.seed(0), behind);
        x.seed(99);
        CHECK.due("campaigns(0)", x.campaigns(0), LameLead.BAD);
        CHECK.due("campaigns(31)", x.campaigns(31), LameLead.BAD);
        CHECK.due("campaigns(min)", x.campaigns(Integer.MIN_VALUE), LameLead.BAD);
        CHECK.due("what is refused leaves the seed", x.seed(0), 99);
        CHECK.due("nobody", new LameLead().campaigns(30), 0);
    }
}
