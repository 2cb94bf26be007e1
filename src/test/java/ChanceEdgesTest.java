import java.math.BigInteger;

/** Boundary cases of promises 21 to 27; the comment of each test is the sentence that it holds to. */
public final class ChanceEdgesTest {
    private static final Check CHECK = new Check();
    private static final String FAR = "S90S90S90S90S90S90S90S90";
    private static final long TIMES = 6364136223846793005L;
    private static final long PLUS = 1442695040888963407L;
    private static final int[] NO_CHOICE = {Integer.MIN_VALUE, -9, -1, 2, 3, Integer.MAX_VALUE};
    private static final int[] NOBODY = {Integer.MIN_VALUE, -9, -1, 5, 8, Integer.MAX_VALUE};

    public static void main(String[] args) {
        attemptTaken();
        attemptRefused();
        attemptSix();
        attemptBadAheadOfFull();
        unattemptOfNoneAndAll();
        pacesOfNothingTried();
        pacesOfEachTried();
        pacesNone();
        pacesByAllThatIsTried();
        pacesRefused();
        restsUnknown();
        restsUnknownAheadOfBad();
        restsBad();
        restsByCount();
        restsInThreeDays();
        restsByFourAndOne();
        restsNeitherHasMore();
        restsWithNineThorns();
        thornyNoneAndAll();
        thornyInNoDays();
        thornyInTwenty();
        thornyNineAtMost();
        thornyOfNobody();
        thornyInLeastTerms();
        thornyRefused();
        seedExtremes();
        seedWraps();
        campaignsCounted();
        campaignsRefused();
        lotsByUpperBits();
        lotsAtTheirEdges();
        lotsThatCanNotBe();
        campaignsNoFartherThanTheEnd();
        campaignsGoOnBySeedAlone();
        CHECK.end("ChanceEdgesTest");
    }

    /** "t (0 .. 3) THORNS had a SPEED of v (1 .. 9), or less (1), or more (0)". */
    private static void attemptTaken() {
        for (int t = 0; t <= 3; t++) {
            for (int v = 1; v <= 9; v++) {
                for (int slow = 0; slow <= 1; slow++) {
                    LameLead x = new LameLead();
                    CHECK.due("attempt(" + t + ", " + v + ", " + slow + ")", x.attempt(t, v, slow), 1);
                    CHECK.due("tried", x.about(10), 1);
                }
            }
        }
    }

    private static final int[][] BAD_ATTEMPTS = {{-1, 1, 0}, {4, 1, 0}, {Integer.MIN_VALUE, 1, 0},
        {Integer.MAX_VALUE, 1, 0}, {0, 0, 0}, {0, 10, 0}, {0, -1, 0}, {0, Integer.MIN_VALUE, 0},
        {0, Integer.MAX_VALUE, 0}, {3, 9, -1}, {3, 9, 2}, {3, 9, Integer.MIN_VALUE}, {3, 9, Integer.MAX_VALUE},
        {4, 10, 2}, {-1, 0, -1}};

    /** "BAD: t, v, slow (0, 1)". */
    private static void attemptRefused() {
        LameLead x = new LameLead();
        for (int[] bad : BAD_ATTEMPTS) {
            CHECK.due("attempt(" + bad[0] + ", " + bad[1] + ", " + bad[2] + ")", x.attempt(bad[0], bad[1], bad[2]),
                LameLead.BAD);
            CHECK.due("nothing tried", x.about(10), 0);
        }
        CHECK.due("all fit", x.paces(0), 27);
    }

    /** "6 such at most"; "FULL: 6." */
    private static void attemptSix() {
        LameLead x = new LameLead();
        for (int many = 1; many <= 6; many++) {
            CHECK.due("tried", x.attempt(0, 9, 1), many);
        }
        CHECK.due("the seventh", x.attempt(0, 9, 0), LameLead.FULL);
        CHECK.due("the seventh again", x.attempt(0, 9, 1), LameLead.FULL);
        CHECK.due("six", x.about(10), 6);
        CHECK.due("the refused one does not count", x.paces(0), 27);
        CHECK.due("all six are gone", x.unattempt(), 6);
        CHECK.due("room again", x.attempt(0, 9, 0), 1);
        CHECK.due("by the new one alone", x.paces(0), 0);
    }

    /** Of several what is told first: "BAD .. ; FULL". */
    private static void attemptBadAheadOfFull() {
        LameLead x = new LameLead();
        for (int many = 1; many <= 6; many++) {
            x.attempt(3, 1, 1);
        }
        for (int[] bad : BAD_ATTEMPTS) {
            CHECK.due("bad ahead of full", x.attempt(bad[0], bad[1], bad[2]), LameLead.BAD);
        }
        CHECK.due("full", x.attempt(3, 1, 1), LameLead.FULL);
        CHECK.due("as it was", x.paces(0), 20);
    }

    /** "Nothing is TRIED: how much there was." */
    private static void unattemptOfNoneAndAll() {
        LameLead x = new LameLead();
        CHECK.due("none at first", x.unattempt(), 0);
        for (int many = 0; many <= 6; many++) {
            for (int i = 0; i < many; i++) {
                x.attempt(0, 9, 0);
            }
            CHECK.due("how much", x.unattempt(), many);
            CHECK.due("nothing", x.unattempt(), 0);
            CHECK.due("all fit", x.paces(0), 27);
            CHECK.due("from the first one", x.paces(1), 1);
        }
    }

    /** "how many (27 there are)": by nothing TRIED all of them. */
    private static void pacesOfNothingTried() {
        LameLead x = new LameLead();
        CHECK.due("27", x.paces(0), 27);
        CHECK.due("kind 0, pace 1", x.paces(1), 1);
        LameLead men = Check.of("AM939M100");
        CHECK.due("whoever is there", men.paces(0), 27);
    }

    /** "KINDS (0 .. 2) and PACES (1 .. 9) by which all that is TRIED is so": each that can be tried, by itself. */
    private static void pacesOfEachTried() {
        int[] by = {2, 1, 3};
        for (int t = 0; t <= 3; t++) {
            for (int v = 1; v <= 9; v++) {
                for (int slow = 0; slow <= 1; slow++) {
                    int many = 0;
                    int first = LameLead.NONE;
                    for (int kind = 2; kind >= 0; kind--) {
                        for (int pace = 9; pace >= 1; pace--) {
                            boolean orLess = Math.max(1, pace - by[kind] * t) <= v;
                            if (orLess == (slow == 1)) {
                                many++;
                                first = 10 * kind + pace;
                            }
                        }
                    }
                    LameLead x = new LameLead();
                    x.attempt(t, v, slow);
                    CHECK.due("paces(0) by " + t + ", " + v + ", " + slow, x.paces(0), many);
                    CHECK.due("paces(1) by " + t + ", " + v + ", " + slow, x.paces(1), first);
                }
            }
        }
    }

    /** "the first one ..; NONE": by none "how many" is 0. */
    private static void pacesNone() {
        LameLead x = new LameLead();
        x.attempt(0, 9, 0);
        CHECK.due("none", x.paces(0), 0);
        CHECK.due("no first one", x.paces(1), LameLead.NONE);
        x.unattempt();
        x.attempt(0, 1, 1);
        x.attempt(0, 1, 0);
        CHECK.due("both can not be", x.paces(0), 0);
        CHECK.due("no first one", x.paces(1), LameLead.NONE);
    }

    /** "all that is TRIED": the first and the sixth as well. */
    private static void pacesByAllThatIsTried() {
        for (int place = 0; place < 6; place++) {
            LameLead x = new LameLead();
            for (int i = 0; i < 6; i++) {
                x.attempt(0, i == place ? 8 : 9, i == place ? 0 : 1);
            }
            CHECK.due("pace 9 alone", x.paces(0), 3);
            CHECK.due("pace 9 first", x.paces(1), 9);
        }
        LameLead last = new LameLead();
        last.attempt(0, 8, 0);
        last.attempt(1, 6, 1);
        CHECK.due("one", last.paces(0), 1);
        CHECK.due("the last of 27", last.paces(1), 29);
    }

    /** paces: "BAD." */
    private static void pacesRefused() {
        LameLead none = new LameLead();
        none.attempt(0, 9, 0);
        for (int what : NO_CHOICE) {
            CHECK.due("paces(" + what + ")", new LameLead().paces(what), LameLead.BAD);
            CHECK.due("paces(" + what + ") of none", none.paces(what), LameLead.BAD);
        }
    }

    /** rests: "UNKNOWN: both". */
    private static void restsUnknown() {
        for (int men = 0; men <= 5; men++) {
            LameLead x = Check.of("AS90" + "M530".repeat(men));
            for (int man : NOBODY) {
                CHECK.due("rests(" + man + ", 0) of " + men, x.rests(man, 0, 0), LameLead.UNKNOWN);
                CHECK.due("rests(0, " + man + ") of " + men, x.rests(0, man, 0), LameLead.UNKNOWN);
                CHECK.due("rests(" + man + ", twice) of " + men, x.rests(man, man, 1), LameLead.UNKNOWN);
            }
            CHECK.due("the one is not there", x.rests(men, 0, 0), LameLead.UNKNOWN);
            CHECK.due("the other is not there", x.rests(0, men, 0), LameLead.UNKNOWN);
            if (men >= 2) {
                CHECK.isSo("the first and the last", x.rests(0, men - 1, 0) >= 0);
                CHECK.isSo("the last and the first", x.rests(men - 1, 0, 0) >= 0);
            }
        }
    }

    private static void restsUnknownAheadOfBad() {
        LameLead x = Check.of("AS90M530M530");
        CHECK.due("both are one that is not there", x.rests(2, 2, 0), LameLead.UNKNOWN);
        for (int what : NO_CHOICE) {
            CHECK.due("the one, and what", x.rests(2, 0, what), LameLead.UNKNOWN);
            CHECK.due("the other, and what", x.rests(0, 2, what), LameLead.UNKNOWN);
            CHECK.due("both, and what", x.rests(-1, -1, what), LameLead.UNKNOWN);
            CHECK.due("nobody", new LameLead().rests(0, 0, what), LameLead.UNKNOWN);
        }
    }

    /** "BAD: both are one, what." */
    private static void restsBad() {
        LameLead x = Check.of("AS90M530M530");
        for (int man = 0; man <= 1; man++) {
            CHECK.due("both are " + man, x.rests(man, man, 0), LameLead.BAD);
            CHECK.due("both are " + man, x.rests(man, man, 1), LameLead.BAD);
            CHECK.due("both are " + man + ", and what", x.rests(man, man, 2), LameLead.BAD);
        }
        for (int what : NO_CHOICE) {
            CHECK.due("rests(0, 1, " + what + ")", x.rests(0, 1, what), LameLead.BAD);
        }
        CHECK.due("one man alone", Check.of("AM500").rests(0, 0, 0), LameLead.BAD);
    }

    private static void resting(String text, int many, int first) {
        LameLead x = Check.of(text);
        CHECK.due(text + ": rests(0, 1, 0)", x.rests(0, 1, 0), many);
        CHECK.due(text + ": rests(0, 1, 1)", x.rests(0, 1, 1), first);
        int turned = first == 1 ? 10 : first == 10 ? 1 : first;
        CHECK.due(text + ": rests(1, 0, 0)", x.rests(1, 0, 0), many);
        if (many <= 1) {
            CHECK.due(text + ": rests(1, 0, 1)", x.rests(1, 0, 1), turned);
        }
    }

    /** "how many ..; the first one (10 times the one and the other); NONE": what each has stands behind it. */
    private static void restsByCount() {
        resting("AS70M622M531", 0, LameLead.NONE);   // none 7 3, other 3 6, one 6 3, both 6 2
        resting("AS22M431M900", 1, 0);               // 6 2, 6 1, 5 2, 5 1
        resting("AS61M410M501", 1, 1);               // 7 3, 3 6, 6 3, 2 6
        resting("AS20M732M723", 1, 10);              // 2 6, 2 5, 5 2, 5 1
        resting("AS40S42M712M701", 1, 11);           // 11 7, 7 10, 9 6, 10 6
        resting("AS81M500M612", 2, 0);               // 10 6, 3 6, 6 3, 2 6
        resting("AS53S92M813M500", 2, 1);            // 11 7, 5 8, 11 8, 4 8
        resting("AS40S52M712M500", 2, 10);           // 7 11, 7 10, 9 6, 10 6
        resting("AS53S92M813M821", 3, 0);            // 11 7, 4 7, 11 8, 3 7
        resting("AM500M600", 1, 0);                  // no road, all healed: 4 0, 4 -1, 3 0, 3 -1
    }

    /** "then there are 3 DAYS": by 2 or by 4 of them it would be two pairs from 0. */
    private static void restsInThreeDays() {
        resting("AS53M631M721", 1, 1);
        resting("AS70M512M421", 1, 1);
    }

    /** "4 more, if he leads behind them, less 1": by 3 or 5, or less 0 or 2, these are others. */
    private static void restsByFourAndOne() {
        resting("AS50M500M702", 1, 1);
        resting("AS81M500M612", 2, 0);
        resting("AS82M730M702", 0, LameLead.NONE);
    }

    /** "neither has more by another choice alone": as much is not more. */
    private static void restsNeitherHasMore() {
        resting("AS93M713M300", 1, 10);
    }

    /** GRAVEL: "(9 at most)". */
    private static void restsWithNineThorns() {
        LameLead x = Check.of("AS90M539M939");
        CHECK.due("gravel that slows nobody does not pay", x.rests(0, 1, 0), 1);
        CHECK.due("so neither takes any", x.rests(0, 1, 1), 0);
        CHECK.due("thorns stay", x.about(8), 18);
    }

    private static void chance(String text, int n, int x, int above, int below) {
        LameLead lead = Check.of(text);
        CHECK.due(text + ": thorny(" + n + ", " + x + ") above", lead.thorny(n, x, true), above);
        CHECK.due(text + ": thorny(" + n + ", " + x + ") below", lead.thorny(n, x, false), below);
    }

    /** "by x tenths (0 .. 10)": by 0 nobody has one more, by 10 everybody. */
    private static void thornyNoneAndAll() {
        chance("AS90M900M900", 1, 0, 1, 1);
        chance("AS90M900M900", 1, 1, 81, 100);
        chance("AS90M900M900", 1, 9, 1, 100);
        chance("AS90M900M900", 1, 10, 0, 1);
        chance("AS90M900M900", 2, 10, 1, 1);
        chance("AS90M900M900M900M900M900", 1, 0, 1, 1);
        chance("AS90M900M900M900M900M900", 1, 10, 0, 1);
    }

    /** "that it COMES in n DAYS (0 .. 20), or fewer". */
    private static void thornyInNoDays() {
        chance("AM900", 0, 5, 1, 1);
        chance("AS10M900", 0, 5, 0, 1);
        chance("AS10M900", 1, 5, 1, 1);
        LameLead x = Check.of("AS10M900");
        x.day();
        CHECK.due("there", x.thorny(0, 10, true), 1);
    }

    private static void thornyInTwenty() {
        chance("AS92S92S22M900", 20, 5, 1, 1);
        chance("AS92S92S32M900", 20, 5, 0, 1);
        // 21 miles: an old one of pace 3 goes 3 a day, with a thorn more 1 a day.
        chance("AS90S90S20M330", 20, 3, 1, 1);
        chance("AS90S90S30M330", 20, 3, 7, 10);
    }

    /** "1 THORN more now (9 at most)": of 9 thorns 2 have healed in 6 days, so a tough one goes 2 then. */
    private static void thornyNineAtMost() {
        chance("AS80M919", 7, 10, 1, 1);
        chance("AS80M918", 7, 10, 1, 1);
        chance("AS80M919", 6, 10, 0, 1);
        LameLead x = Check.of("AS80M919");
        x.thorny(7, 10, true);
        CHECK.due("thorns stay", x.man(0, 2), 9);
    }

    private static void thornyOfNobody() {
        chance("A", 0, 0, 1, 1);
        chance("A", 20, 10, 1, 1);
        chance("AS10", 20, 0, 0, 1);
        CHECK.due("new", new LameLead().thorny(0, 0, false), 1);
    }

    /** "FRACTIONS are told above .., below, in least terms." */
    private static void thornyInLeastTerms() {
        int[] above = {1, 9, 4, 7, 3, 1, 2, 3, 1, 1, 0};
        int[] below = {1, 10, 5, 10, 5, 2, 5, 10, 5, 10, 1};
        for (int x = 0; x <= 10; x++) {
            chance("AS90M900", 1, x, above[x], below[x]);
        }
        chance("AS90M900M900M900M900M900", 1, 5, 1, 32);
        chance("AS90M900M900M900M900M900", 1, 7, 243, 100000);
    }

    /** thorny: "BAD: n, x." */
    private static void thornyRefused() {
        for (LameLead lead : new LameLead[] {new LameLead(), Check.of("AS90M900")}) {
            for (boolean upper : new boolean[] {true, false}) {
                for (int bad : new int[] {Integer.MIN_VALUE, -9, -1, 21, Integer.MAX_VALUE}) {
                    CHECK.due("thorny(" + bad + ", 5)", lead.thorny(bad, 5, upper), LameLead.BAD);
                    CHECK.due("thorny(5, " + bad + ")", lead.thorny(5, bad, upper), LameLead.BAD);
                    CHECK.due("thorny(" + bad + ", twice)", lead.thorny(bad, bad, upper), LameLead.BAD);
                }
                CHECK.due("thorny(20, 11)", lead.thorny(20, 11, upper), LameLead.BAD);
            }
        }
    }

    /** "THE SEED is v: what it was"; "a long; 0 at first". */
    private static void seedExtremes() {
        LameLead x = new LameLead();
        long was = 0;
        long[] seeds = {Long.MIN_VALUE, Long.MAX_VALUE, -1, 1, Integer.MIN_VALUE, Integer.MAX_VALUE, 1L << 32, 0};
        for (long seed : seeds) {
            CHECK.due("seed(" + seed + ")", x.seed(seed), was);
            was = seed;
        }
    }

    private static long wrapped(long seed) {
        return BigInteger.valueOf(seed).multiply(BigInteger.valueOf(TIMES)).add(BigInteger.valueOf(PLUS)).longValue();
    }

    /** "x times 6364136223846793005 and 1442695040888963407 (64 bits, wrapping)". */
    private static void seedWraps() {
        for (long seed : new long[] {0, 1, 2, -1, Long.MIN_VALUE, Long.MAX_VALUE, 1L << 32, 1L << 62, -5}) {
            LameLead x = Check.of("AS90M500");
            x.seed(seed);
            x.campaigns(1);
            CHECK.due("one step from " + seed, x.seed(seed), wrapped(seed));
            x.campaigns(3);
            CHECK.due("three steps from " + seed, x.seed(0), wrapped(wrapped(wrapped(seed))));
        }
        for (long next : new long[] {0, 1, -1, Long.MIN_VALUE, Long.MAX_VALUE}) {
            LameLead x = new LameLead();
            x.seed(seedAhead(next));
            x.campaigns(1);
            CHECK.due("a seed that becomes " + next, x.seed(0), next);
        }
    }

    /** The seed that becomes this one: the step can be turned back, since its factor is odd. */
    private static long seedAhead(long next) {
        BigInteger whole = BigInteger.ONE.shiftLeft(64);
        return BigInteger.valueOf(next).subtract(BigInteger.valueOf(PLUS))
            .multiply(BigInteger.valueOf(TIMES).modInverse(whole)).longValue();
    }

    /** "m times (1 .. 30)". */
    private static void campaignsCounted() {
        for (int m = 1; m <= 30; m++) {
            LameLead x = Check.of("AS10M100");
            x.day();
            CHECK.due("campaigns(" + m + ")", x.campaigns(m), m);
            long due = 0;
            for (int i = 0; i < m; i++) {
                due = wrapped(due);
            }
            CHECK.due("seed behind " + m, x.seed(0), due);
        }
    }

    /** campaigns: "BAD: m." */
    private static void campaignsRefused() {
        LameLead x = Check.of("AS90M100");
        x.seed(-7);
        for (int m : new int[] {Integer.MIN_VALUE, -30, -9, -1, 0, 31, 32, Integer.MAX_VALUE}) {
            CHECK.due("campaigns(" + m + ")", x.campaigns(m), LameLead.BAD);
        }
        CHECK.due("the seed stays", x.seed(0), -7);
    }

    private static void oneLot(long upperBits, long lowerBits, boolean day) {
        long next = upperBits << 33 | lowerBits;
        LameLead x = Check.of("AS90M700");
        x.seed(seedAhead(next));
        CHECK.due("upper bits " + upperBits + ", lower " + lowerBits, x.campaigns(1), day ? 7 : 0);
        CHECK.due("the seed", x.seed(0), next);
    }

    /** "what is left of its upper 31 bits by 20": never less than 0; the lower 33 bits do not count. */
    private static void lotsByUpperBits() {
        long lower = (1L << 33) - 1;
        long most = (1L << 31) - 1;
        for (long upper : new long[] {0, 10, 11, 19, 20, 30, 31, 39, 40}) {
            oneLot(upper, 0, upper % 20 >= 11);
            oneLot(upper, lower, upper % 20 >= 11);
        }
        for (long upper = most - 40; upper <= most; upper++) {
            oneLot(upper, 0, upper % 20 >= 11);
            oneLot(upper, lower, upper % 20 >= 11);
        }
        for (long upper = (1L << 30) - 20; upper <= (1L << 30) + 20; upper++) {
            oneLot(upper, upper, upper % 20 >= 11);
        }
    }

    /** A seed by which lots come in this order: each lot is given as the least and the greatest that will do. */
    private static long seedFor(int... bounds) {
        for (long seed = 0; seed < 10_000_000; seed++) {
            long x = seed;
            boolean so = true;
            for (int i = 0; i + 1 < bounds.length && so; i += 2) {
                x = x * TIMES + PLUS;
                long lot = (x >>> 33) % 20;
                so = bounds[i] <= lot && lot <= bounds[i + 1];
            }
            if (so) {
                return seed;
            }
        }
        throw new IllegalStateException("no such seed");
    }

    private static void behind(String text, int lot, int dayBehind) {
        LameLead x = Check.of(text);
        x.seed(seedFor(lot, lot, 11, 19));
        CHECK.due(text + ": a day behind lot " + lot, x.campaigns(2), dayBehind);
        CHECK.due(text + ": the mile stays", x.about(3), 0);
        CHECK.due(text + ": no acts", x.about(9), 0);
    }

    /** "0 .. 4 that MAN has GRAVEL put in, 5 .. 9 that less 5 MAN has one PULLED, .. 10 A HALT, 11 .. 19 A DAY". */
    private static void lotsAtTheirEdges() {
        String five = "A" + FAR + "M931M931M931M931M931";
        for (int lot = 0; lot <= 4; lot++) {
            behind(five, lot, 5);
        }
        for (int man = 0; man <= 4; man++) {
            StringBuilder text = new StringBuilder("A" + FAR);
            for (int i = 0; i <= 4; i++) {
                text.append(i == man ? "M931" : "M900");
            }
            for (int lot = 5; lot <= 9; lot++) {
                behind(text.toString(), lot, lot - 5 == man ? 9 : 7);
            }
        }
        behind("A" + FAR + "M901", 10, 9);
        behind("A" + FAR + "M901", 11, 7 + 14);
        behind("A" + FAR + "M901", 19, 7 + 14);
    }

    /** "each if it can be (as JUDGED)": not GRAVEL at 9, not PULLED at 0, no MAN that is not there. */
    private static void lotsThatCanNotBe() {
        for (int lot = 0; lot <= 9; lot++) {
            behind("A" + FAR, lot, 0);
        }
        for (int lot = 1; lot <= 9; lot++) {
            behind("A" + FAR + "M900", lot, 9);
        }
        behind("A" + FAR + "M500M500M500M500M500", 5, 5);
        behind("A" + FAR + "M500M500M500M500M500", 9, 5);
        // Of 9 thorns 7 are left by two pulled, by which a tough one goes 2; of 10 there would be 8.
        LameLead x = Check.of("A" + FAR + "M919");
        x.seed(seedFor(0, 0, 5, 5, 5, 5, 11, 19));
        CHECK.due("gravel at 9, two pulled, a day", x.campaigns(4), 2);
    }

    /** "the MILE, each time, together": 72 at most, each time. */
    private static void campaignsNoFartherThanTheEnd() {
        LameLead x = Check.of("A" + FAR + "M900");
        for (int i = 0; i < 8; i++) {
            x.day();
        }
        CHECK.due("the most", x.campaigns(30), 30 * 72);
        CHECK.due("no road", Check.of("AM900").campaigns(30), 0);
        CHECK.due("nobody", Check.of("A" + FAR).campaigns(30), 0);
        CHECK.due("new", new LameLead().campaigns(30), 0);
    }

    /** "(Nothing changes but THE SEED.)": the second call goes on by the seed, not from the MILE. */
    private static void campaignsGoOnBySeedAlone() {
        LameLead x = Check.of("A" + FAR + "M130");
        x.seed(seedFor(11, 19, 11, 19, 11, 19));
        CHECK.due("one day", x.campaigns(1), 1);
        CHECK.due("one day anew", x.campaigns(1), 1);
        x.seed(seedFor(11, 19, 11, 19, 11, 19));
        CHECK.due("three days", x.campaigns(3), 1 + 2 + 3);
    }
}
