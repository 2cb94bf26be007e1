/**
 * An army on the march that goes no faster than the slowest of its men, who leads it.
 * Words in capitals in the comments are those of the document.
 */
public final class LameLead {
    public static final int UNKNOWN = -1, BAD = -2, LATE = -3, FULL = -4, NONE = -9;

    private static final int TEXT_LIMIT = 48;
    private static final int STRETCH_LIMIT = 8;
    private static final int MAN_LIMIT = 5;
    private static final int MILE_LIMIT = 72;
    private static final int THORN_LIMIT = 9;
    private static final int ACT_LIMIT = 14;
    private static final int TRIED_LIMIT = 6;
    private static final int DOING_LIMIT = 4;
    private static final int LATER_LIMIT = 40;
    private static final int COMES_LIMIT = 60;
    private static final int CHANCE_LIMIT = 20;
    private static final int CAMPAIGN_LIMIT = 30;
    private static final int SHARE_DAYS = 5;
    private static final int REST_DAYS = 3;

    private static final int BOG = 1;
    private static final int RIVER = 2;
    private static final int THICKET = 3;
    private static final int OLD = 3;
    private static final int EVERYBODY = -1;
    private static final long NOTHING_KEPT = -1L;

    /** By how much a THORN slows a MAN, by KIND. */
    private static final int[] SLOWED_BY = {2, 1, 3, 2};
    private static final int[] FACTORIALS = {1, 1, 2, 6, 24, 120};
    /** What a told row of 1, 2, .. doings is less than. */
    private static final long[] ROW_LIMITS = {1000L, 1000000L, 1000000000L, 1000000000000L};

    /** Least and greatest figures behind S and M in THE TEXT. */
    private static final int[] STRETCH_LEAST = {1, 0};
    private static final int[] STRETCH_MOST = {9, 3};
    private static final int[] MAN_LEAST = {1, 0, 0};
    private static final int[] MAN_MOST = {9, 3, 9};

    private final Text text;
    private final Road road;
    private final Troop troop;
    private final March now;
    private final Acts acts;
    private final Outlook outlook;
    private final Chances chances;
    private final Trials trials;
    private final long[] kept;
    private long seed;

    public LameLead() {
        text = new Text();
        road = new Road();
        troop = new Troop();
        now = new March(road, troop);
        acts = new Acts();
        outlook = new Outlook(now, new March(road, troop));
        chances = new Chances(now, new March(road, troop));
        trials = new Trials();
        kept = new long[] {NOTHING_KEPT, NOTHING_KEPT};
        seed = 0L;
    }

    // ---- the army

    public int write(int letter) {
        if (letter < 0 || letter > 255) {
            return BAD;
        }
        if (text.size() >= TEXT_LIMIT) {
            return FULL;
        }
        text.append(letter);
        return text.size();
    }

    public int wipe() {
        int was = text.size();
        text.empty();
        return was;
    }

    public int fault() {
        return text.faultPlace();
    }

    public int army() {
        if (text.faultPlace() != NONE) {
            return LATE;
        }
        text.tell(road, troop);
        now.begin();
        acts.forgetAll();
        for (int slot = 0; slot < kept.length; slot++) {
            kept[slot] = NOTHING_KEPT;
        }
        return 10 * road.count() + troop.count();
    }

    public int about(int what) {
        switch (what) {
            case 0: return road.count();
            case 1: return troop.count();
            case 2: return road.end();
            case 3: return now.mile();
            case 4: return now.dayNumber();
            case 5: return now.leader();
            case 6: return now.leaderSpeed();
            case 7: return road.stretchAt(now.mile());
            case 8: return now.allThorns();
            case 9: return acts.count();
            case 10: return trials.count();
            case 11: return text.size();
            default: return BAD;
        }
    }

    public int man(int man, int what) {
        if (!troop.has(man)) {
            return UNKNOWN;
        }
        switch (what) {
            case 0: return troop.paceOf(man);
            case 1: return troop.kindOf(man);
            case 2: return now.thornsOf(man);
            case 3: return now.speedOf(man);
            default: return BAD;
        }
    }

    public int stretch(int stretch, int what) {
        if (!road.has(stretch)) {
            return UNKNOWN;
        }
        switch (what) {
            case 0: return road.milesOf(stretch);
            case 1: return road.groundOf(stretch);
            case 2: return road.beginOf(stretch);
            default: return BAD;
        }
    }

    // ---- acts

    public int day() {
        acts.remember(now.packed());
        return now.goDay();
    }

    public int halt() {
        acts.remember(now.packed());
        now.stay();
        return now.allThorns();
    }

    public int gravel(int man) {
        if (!troop.has(man)) {
            return UNKNOWN;
        }
        if (!now.canPrick(man)) {
            return FULL;
        }
        acts.remember(now.packed());
        now.prick(man);
        return now.thornsOf(man);
    }

    public int pull(int man) {
        if (!troop.has(man)) {
            return UNKNOWN;
        }
        if (!now.canEase(man)) {
            return LATE;
        }
        acts.remember(now.packed());
        now.ease(man);
        return now.thornsOf(man);
    }

    public int undo() {
        if (acts.count() == 0) {
            return LATE;
        }
        now.unpack(acts.takeLast());
        return acts.count();
    }

    // ---- days to come

    public int later(int n, int what) {
        if (n < 0 || n > LATER_LIMIT || !isChoice(what)) {
            return BAD;
        }
        return what == 0 ? outlook.mileIn(n) : outlook.leaderIn(n);
    }

    public int comes() {
        return outlook.daysToEnd();
    }

    public int leads(int man) {
        if (!troop.has(man)) {
            return UNKNOWN;
        }
        return outlook.daysToLead(man);
    }

    public int cure(int what) {
        if (!isChoice(what)) {
            return BAD;
        }
        return outlook.bestCure(what == 0);
    }

    public int plan(int n, int what) {
        if (n < 0 || n > CHANCE_LIMIT || !isChoice(what)) {
            return BAD;
        }
        int pulls = outlook.fewestPulls(n);
        if (pulls == NONE) {
            return NONE;
        }
        return what == 0 ? outlook.pullsInAll(pulls) : outlook.pullFigures(pulls);
    }

    public int judge(int n, long row) {
        if (n < 1 || n > ROW_LIMITS.length || row < 0 || row >= ROW_LIMITS[n - 1]) {
            return BAD;
        }
        return outlook.firstImpossible(n, row);
    }

    public int share(int man, boolean upper) {
        if (!troop.has(man)) {
            return UNKNOWN;
        }
        int below = factorial(troop.count());
        return termOf(outlook.lossOverOrders(man), below, upper);
    }

    // ---- tried

    public int attempt(int t, int v, int slow) {
        if (t < 0 || t > 3 || v < 1 || v > 9 || !isChoice(slow)) {
            return BAD;
        }
        if (trials.count() >= TRIED_LIMIT) {
            return FULL;
        }
        trials.add(t, v, slow == 1);
        return trials.count();
    }

    public int unattempt() {
        int was = trials.count();
        trials.forgetAll();
        return was;
    }

    public int paces(int what) {
        if (!isChoice(what)) {
            return BAD;
        }
        return what == 0 ? trials.fittingCount() : trials.firstFitting();
    }

    // ---- rests, chances

    public int rests(int one, int other, int what) {
        if (!troop.has(one) || !troop.has(other)) {
            return UNKNOWN;
        }
        if (one == other || !isChoice(what)) {
            return BAD;
        }
        chances.weighPairs(one, other);
        return what == 0 ? chances.restCount() : chances.firstRest();
    }

    public int thorny(int n, int x, boolean upper) {
        if (n < 0 || n > CHANCE_LIMIT || x < 0 || x > 10) {
            return BAD;
        }
        int below = power(10, troop.count());
        return termOf(chances.weightInTime(n, x), below, upper);
    }

    public long seed(long v) {
        long was = seed;
        seed = v;
        return was;
    }

    public int campaigns(int m) {
        if (m < 1 || m > CAMPAIGN_LIMIT) {
            return BAD;
        }
        int together = 0;
        chances.setOut();
        for (int time = 0; time < m; time++) {
            seed = seed * 6364136223846793005L + 1442695040888963407L;
            together += chances.mileBehindLot((int) ((seed >>> 33) % 20));
        }
        return together;
    }

    // ---- slots

    public int keep(int slot) {
        if (slot < 0 || slot >= kept.length) {
            return UNKNOWN;
        }
        kept[slot] = now.packed();
        return now.dayNumber();
    }

    public int again(int slot) {
        if (slot < 0 || slot >= kept.length) {
            return UNKNOWN;
        }
        if (kept[slot] == NOTHING_KEPT) {
            return LATE;
        }
        now.unpack(kept[slot]);
        acts.forgetAll();
        return now.dayNumber();
    }

    // ---- figures

    private static boolean isChoice(int what) {
        return what == 0 || what == 1;
    }

    private static int factorial(int n) {
        return n >= 0 && n < FACTORIALS.length ? FACTORIALS[n] : 1;
    }

    private static int power(int base, int times) {
        int product = 1;
        for (int i = 0; i < times; i++) {
            product *= base;
        }
        return product;
    }

    /** The SPEED of a MAN of this PACE and KIND with so many THORNS. */
    private static int speedBy(int pace, int kind, int thorns) {
        int slowed = kind >= 0 && kind < SLOWED_BY.length ? SLOWED_BY[kind] : 0;
        int speed = pace - slowed * thorns;
        return speed < 1 ? 1 : speed;
    }

    /** One of the two terms of a FRACTION in least terms; below is 1 or more. */
    private static int termOf(int above, int below, boolean upper) {
        int common = commonDivisor(Math.abs(above), below);
        if (common == 0) {
            return 0;
        }
        return (upper ? above : below) / common;
    }

    private static int commonDivisor(int one, int other) {
        int larger = one;
        int smaller = other;
        // Euclid's steps on ints are fewer than 50.
        for (int step = 0; step < 64 && smaller != 0; step++) {
            int left = larger % smaller;
            larger = smaller;
            smaller = left;
        }
        return larger;
    }

    /** THE TEXT. */
    private static final class Text {
        private final int[] letters = new int[TEXT_LIMIT];
        private int size;

        int size() {
            return size;
        }

        void empty() {
            size = 0;
        }

        void append(int letter) {
            if (size >= 0 && size < letters.length) {
                letters[size] = letter;
                size++;
            }
        }

        /** Behind the end there is -1, which fits nowhere: so a TEXT cut short has its fault at its length. */
        private int letterAt(int place) {
            return place >= 0 && place < size && place < letters.length ? letters[place] : -1;
        }

        private int figureAt(int place) {
            return letterAt(place) - '0';
        }

        int faultPlace() {
            if (letterAt(0) != 'A') {
                return 0;
            }
            int stretches = 0;
            int men = 0;
            int place = 1;
            for (int thing = 0; thing < TEXT_LIMIT && place < size; thing++) {
                int misfit;
                int behind;
                if (letterAt(place) == 'S' && stretches < STRETCH_LIMIT) {
                    stretches++;
                    behind = place + 3;
                    misfit = misfitFrom(place + 1, STRETCH_LEAST, STRETCH_MOST);
                } else if (letterAt(place) == 'M' && men < MAN_LIMIT) {
                    men++;
                    behind = place + 4;
                    misfit = misfitFrom(place + 1, MAN_LEAST, MAN_MOST);
                } else {
                    return place;
                }
                if (misfit != NONE) {
                    return misfit;
                }
                place = behind;
            }
            return NONE;
        }

        private int misfitFrom(int place, int[] least, int[] most) {
            for (int i = 0; i < least.length && i < most.length; i++) {
                int figure = figureAt(place + i);
                if (figure < least[i] || figure > most[i]) {
                    return place + i;
                }
            }
            return NONE;
        }

        /** Tells a TEXT without a fault to the road and the troop, which forget what they were. */
        void tell(Road road, Troop troop) {
            road.empty();
            troop.empty();
            int place = 1;
            for (int thing = 0; thing < TEXT_LIMIT && place < size; thing++) {
                if (letterAt(place) == 'S') {
                    road.add(figureAt(place + 1), figureAt(place + 2));
                    place += 3;
                } else {
                    troop.add(figureAt(place + 1), figureAt(place + 2), figureAt(place + 3));
                    place += 4;
                }
            }
        }
    }

    /** The STRETCHES. */
    private static final class Road {
        private final int[] miles = new int[STRETCH_LIMIT];
        private final int[] grounds = new int[STRETCH_LIMIT];
        private final int[] begins = new int[STRETCH_LIMIT];
        /** Looked up on each DAY of each way that is weighed, so it is worked out once. */
        private final int[] stretchOfMile = new int[MILE_LIMIT];
        private int count;
        private int end;

        int count() {
            return count;
        }

        int end() {
            return end;
        }

        void empty() {
            count = 0;
            end = 0;
        }

        void add(int length, int ground) {
            if (count < 0 || count >= STRETCH_LIMIT) {
                return;
            }
            miles[count] = length;
            grounds[count] = ground;
            begins[count] = end;
            for (int i = 0; i < length && end >= 0 && end < stretchOfMile.length; i++) {
                stretchOfMile[end] = count;
                end++;
            }
            count++;
        }

        boolean has(int stretch) {
            return stretch >= 0 && stretch < count && stretch < STRETCH_LIMIT;
        }

        int milesOf(int stretch) {
            return has(stretch) ? miles[stretch] : 0;
        }

        int groundOf(int stretch) {
            return stretch >= 0 && stretch < count && stretch < grounds.length ? grounds[stretch] : NONE;
        }

        int beginOf(int stretch) {
            return has(stretch) ? begins[stretch] : 0;
        }

        int stretchAt(int mile) {
            return mile >= 0 && mile < end && mile < stretchOfMile.length ? stretchOfMile[mile] : NONE;
        }
    }

    /** The MEN as they were told. */
    private static final class Troop {
        private final int[] pace = new int[MAN_LIMIT];
        private final int[] kind = new int[MAN_LIMIT];
        private final int[] told = new int[MAN_LIMIT];
        private int count;

        int count() {
            return count;
        }

        void empty() {
            count = 0;
        }

        void add(int itsPace, int itsKind, int thorns) {
            if (count < 0 || count >= MAN_LIMIT) {
                return;
            }
            pace[count] = itsPace;
            kind[count] = itsKind;
            told[count] = thorns;
            count++;
        }

        boolean has(int man) {
            return man >= 0 && man < count && man < MAN_LIMIT;
        }

        int paceOf(int man) {
            return man >= 0 && man < count && man < pace.length ? pace[man] : 0;
        }

        int kindOf(int man) {
            return man >= 0 && man < count && man < kind.length ? kind[man] : NONE;
        }

        int toldThornsOf(int man) {
            return has(man) ? told[man] : 0;
        }
    }

    /** Where an army stands: its MILE, THE DAY, the THORNS of its MEN. */
    private static final class March {
        private final Road road;
        private final Troop troop;
        /** 0 behind the last MAN. */
        private final int[] thorns = new int[MAN_LIMIT];
        private int mile;
        private int dayNumber;
        /** A bit by MAN: for a SHARE some are not there. */
        private int present = EVERYBODY;

        March(Road road, Troop troop) {
            this.road = road;
            this.troop = troop;
        }

        int mile() {
            return mile;
        }

        int dayNumber() {
            return dayNumber;
        }

        int end() {
            return road.end();
        }

        int menCount() {
            return troop.count();
        }

        boolean isThere() {
            return mile >= road.end();
        }

        void begin() {
            mile = 0;
            dayNumber = 0;
            for (int man = 0; man < thorns.length; man++) {
                thorns[man] = troop.toldThornsOf(man);
            }
        }

        /** Starts as the other one stands, with all MEN. */
        void follow(March other) {
            mile = other.mile;
            dayNumber = other.dayNumber;
            present = EVERYBODY;
            for (int man = 0; man < thorns.length && man < other.thorns.length; man++) {
                thorns[man] = other.thorns[man];
            }
        }

        /** Starts as the other one stands, with those MEN only whose bits are set. */
        void followWith(March other, int some) {
            follow(other);
            present = some;
        }

        /** All of it in one number, 0 or more, so that keeping it makes no objects. */
        long packed() {
            long pack = dayNumber;
            pack = pack << 8 | mile;
            for (int man = 0; man < thorns.length; man++) {
                pack = pack << 4 | thorns[man];
            }
            return pack;
        }

        void unpack(long packed) {
            long pack = packed;
            for (int man = thorns.length - 1; man >= 0; man--) {
                thorns[man] = (int) (pack & 15);
                pack = pack >>> 4;
            }
            mile = (int) (pack & 255);
            dayNumber = (int) (pack >>> 8);
        }

        int thornsOf(int man) {
            return man >= 0 && man < thorns.length ? thorns[man] : 0;
        }

        int allThorns() {
            int all = 0;
            for (int man = 0; man < thorns.length; man++) {
                all += thorns[man];
            }
            return all;
        }

        int speedOf(int man) {
            return speedBy(troop.paceOf(man), troop.kindOf(man), thornsOf(man));
        }

        int leader() {
            int slowest = NONE;
            int least = 0;
            int men = troop.count();
            for (int man = 0; man < men && man < thorns.length; man++) {
                if ((present >> man & 1) == 1) {
                    int speed = speedBy(troop.paceOf(man), troop.kindOf(man), thorns[man]);
                    if (slowest == NONE || speed < least) {
                        slowest = man;
                        least = speed;
                    }
                }
            }
            return slowest;
        }

        int leaderSpeed() {
            int leader = leader();
            return leader == NONE ? 0 : speedOf(leader);
        }

        boolean canPrick(int man) {
            return troop.has(man) && thornsOf(man) < THORN_LIMIT;
        }

        void prick(int man) {
            if (troop.has(man) && man >= 0 && man < thorns.length && thorns[man] < THORN_LIMIT) {
                thorns[man]++;
            }
        }

        boolean canEase(int man) {
            return troop.has(man) && thornsOf(man) > 0;
        }

        void ease(int man) {
            if (troop.has(man) && man >= 0 && man < thorns.length && thorns[man] > 0) {
                thorns[man]--;
            }
        }

        void easeTimes(int man, int times) {
            for (int i = 0; i < times; i++) {
                ease(man);
            }
        }

        /** A DAY: how many MILES it goes. */
        int goDay() {
            int leader = leader();
            int gone = 0;
            if (!isThere() && leader != NONE) {
                int ground = road.groundOf(road.stretchAt(mile));
                gone = Math.min(milesOver(ground, speedOf(leader)), road.end() - mile);
                mile += gone;
                if (ground == THICKET) {
                    prick(leader);
                }
            }
            if (dayNumber % 3 == 2) {
                healAll();
            }
            dayNumber++;
            return gone;
        }

        private static int milesOver(int ground, int speed) {
            if (ground == BOG) {
                return Math.max(1, speed / 2);
            }
            return ground == RIVER ? 1 : speed;
        }

        void goDays(int days) {
            for (int i = 0; i < days; i++) {
                goDay();
            }
        }

        /** Goes on until it is THERE: in how many DAYS; NONE: not in so many. */
        int goToEnd(int mostDays) {
            for (int days = 0; days < mostDays; days++) {
                if (isThere()) {
                    return days;
                }
                goDay();
            }
            return isThere() ? mostDays : NONE;
        }

        /** A HALT. */
        void stay() {
            healAll();
            dayNumber++;
        }

        private void healAll() {
            for (int man = 0; man < thorns.length; man++) {
                if (thorns[man] > 0 && troop.kindOf(man) != OLD) {
                    thorns[man]--;
                }
            }
        }
    }

    /** The ACTS: how the army stood ahead of each of them. */
    private static final class Acts {
        private final long[] before = new long[ACT_LIMIT];
        private int count;

        int count() {
            return count;
        }

        void forgetAll() {
            count = 0;
        }

        void remember(long packed) {
            if (count >= before.length) {
                forgetFirst();
            }
            if (count >= 0 && count < before.length) {
                before[count] = packed;
                count++;
            }
        }

        private void forgetFirst() {
            for (int i = 1; i < before.length; i++) {
                before[i - 1] = before[i];
            }
            count = before.length - 1;
        }

        /** Only if there is one. */
        long takeLast() {
            if (count <= 0 || count > before.length) {
                return 0L;
            }
            count--;
            return before[count];
        }
    }

    /** What is to come, tried out on a march of its own. */
    private static final class Outlook {
        private final March now;
        private final March ahead;
        private final int[] doings = new int[DOING_LIMIT];

        Outlook(March now, March ahead) {
            this.now = now;
            this.ahead = ahead;
        }

        int mileIn(int days) {
            ahead.follow(now);
            ahead.goDays(days);
            return ahead.mile();
        }

        int leaderIn(int days) {
            ahead.follow(now);
            ahead.goDays(days);
            return ahead.leader();
        }

        int daysToEnd() {
            ahead.follow(now);
            return ahead.goToEnd(COMES_LIMIT);
        }

        int daysToLead(int man) {
            ahead.follow(now);
            for (int days = 0; days <= LATER_LIMIT; days++) {
                if (ahead.leader() == man) {
                    return days;
                }
                ahead.goDay();
            }
            return NONE;
        }

        int bestCure(boolean who) {
            int best = NONE;
            int fewest = NONE;
            for (int man = 0; man < now.menCount(); man++) {
                int days = now.canEase(man) ? daysIfEased(man) : NONE;
                if (days != NONE && (best == NONE || days < fewest)) {
                    best = man;
                    fewest = days;
                }
            }
            return who ? best : fewest;
        }

        private int daysIfEased(int man) {
            ahead.follow(now);
            ahead.ease(man);
            return ahead.goToEnd(COMES_LIMIT);
        }

        /**
         * The PLAN as figures 0 .. 3 in two bits each, the first MAN's uppermost: so ways come in the
         * order of their figures, and the first one of so many THORNS is the least.
         */
        int fewestPulls(int days) {
            int best = NONE;
            int fewest = 0;
            int ways = power(4, now.menCount());
            for (int pulls = 0; pulls < ways; pulls++) {
                int inAll = pullsInAll(pulls);
                if ((best == NONE || inAll < fewest) && canPull(pulls) && isInTime(pulls, days)) {
                    best = pulls;
                    fewest = inAll;
                }
            }
            return best;
        }

        private int pullsOf(int man, int pulls) {
            return pulls >> 2 * (now.menCount() - 1 - man) & 3;
        }

        private boolean canPull(int pulls) {
            for (int man = 0; man < now.menCount(); man++) {
                if (pullsOf(man, pulls) > now.thornsOf(man)) {
                    return false;
                }
            }
            return true;
        }

        private boolean isInTime(int pulls, int days) {
            ahead.follow(now);
            for (int man = 0; man < now.menCount(); man++) {
                ahead.easeTimes(man, pullsOf(man, pulls));
            }
            return ahead.goToEnd(days) != NONE;
        }

        int pullsInAll(int pulls) {
            int inAll = 0;
            for (int man = 0; man < now.menCount(); man++) {
                inAll += pullsOf(man, pulls);
            }
            return inAll;
        }

        int pullFigures(int pulls) {
            int figures = 0;
            for (int man = 0; man < now.menCount(); man++) {
                figures = 10 * figures + pullsOf(man, pulls);
            }
            return figures;
        }

        /** JUDGED: the place of the first doing that can not be, or is not so. */
        int firstImpossible(int n, long row) {
            long left = row;
            for (int place = Math.min(n, doings.length) - 1; place >= 0; place--) {
                doings[place] = (int) (left % 1000);
                left = left / 1000;
            }
            ahead.follow(now);
            for (int place = 0; place < n && place < doings.length; place++) {
                int doing = doings[place];
                if (!does(doing / 100, doing / 10 % 10, doing % 10)) {
                    return place;
                }
            }
            return NONE;
        }

        private boolean does(int doing, int middle, int last) {
            if (doing == 5) {
                return middle < now.menCount() && ahead.thornsOf(middle) >= last;
            }
            if (doing == 6) {
                return ahead.mile() >= 10 * middle + last;
            }
            return middle == 0 && doesPlain(doing, last);
        }

        /** The doings whose middle figure says nothing. */
        private boolean doesPlain(int doing, int last) {
            boolean can;
            switch (doing) {
                case 0:
                    ahead.goDay();
                    return last == 0;
                case 1:
                    ahead.stay();
                    return last == 0;
                case 2:
                    can = ahead.canPrick(last);
                    ahead.prick(last);
                    return can;
                case 3:
                    can = ahead.canEase(last);
                    ahead.ease(last);
                    return can;
                case 4:
                    return ahead.leader() == last;
                default:
                    return false;
            }
        }

        /** What a MAN loses them, over all orders in which MEN can come, together. */
        int lossOverOrders(int man) {
            int men = now.menCount();
            int loss = 0;
            for (int some = 0; some < 1 << men; some++) {
                if ((some >> man & 1) == 0) {
                    int there = Integer.bitCount(some);
                    int orders = factorial(there) * factorial(men - 1 - there);
                    loss += orders * (mileOfSome(some) - mileOfSome(some | 1 << man));
                }
            }
            return loss;
        }

        private int mileOfSome(int some) {
            if (some == 0) {
                return now.end();
            }
            ahead.followWith(now, some);
            ahead.goDays(SHARE_DAYS);
            return ahead.mile();
        }
    }

    /** What two MEN choose, and what comes by chance, tried out on a march of its own. */
    private static final class Chances {
        private final March now;
        private final March ahead;
        /** What each of the two has, by pair: twice the one's choice and the other's. */
        private final int[] oneHas = new int[4];
        private final int[] otherHas = new int[4];

        Chances(March now, March ahead) {
            this.now = now;
            this.ahead = ahead;
        }

        void weighPairs(int one, int other) {
            for (int pair = 0; pair < oneHas.length && pair < otherHas.length; pair++) {
                int oneGravel = pair >> 1;
                int otherGravel = pair & 1;
                ahead.follow(now);
                if (oneGravel == 1) {
                    ahead.prick(one);
                }
                if (otherGravel == 1) {
                    ahead.prick(other);
                }
                ahead.goDays(REST_DAYS);
                int gone = ahead.mile() - now.mile();
                int leader = ahead.leader();
                oneHas[pair] = gone + (leader == one ? 4 : 0) - oneGravel;
                otherHas[pair] = gone + (leader == other ? 4 : 0) - otherGravel;
            }
        }

        private static int hasBy(int[] has, int pair) {
            return pair >= 0 && pair < has.length ? has[pair] : 0;
        }

        /** The one's other choice changes the upper bit of a pair, the other's the lower one. */
        private boolean isRest(int pair) {
            return hasBy(oneHas, pair ^ 2) <= hasBy(oneHas, pair)
                && hasBy(otherHas, pair ^ 1) <= hasBy(otherHas, pair);
        }

        int restCount() {
            int count = 0;
            for (int pair = 0; pair < oneHas.length; pair++) {
                if (isRest(pair)) {
                    count++;
                }
            }
            return count;
        }

        int firstRest() {
            for (int pair = 0; pair < oneHas.length; pair++) {
                if (isRest(pair)) {
                    return 10 * (pair >> 1) + (pair & 1);
                }
            }
            return NONE;
        }

        /** Of 10 to the power of MEN how much is the chance that it COMES in so many DAYS. */
        int weightInTime(int days, int tenths) {
            int men = now.menCount();
            int weight = 0;
            for (int pricked = 0; pricked < 1 << men; pricked++) {
                int many = Integer.bitCount(pricked);
                int chance = power(tenths, many) * power(10 - tenths, men - many);
                if (chance > 0 && isInTimePricked(pricked, days)) {
                    weight += chance;
                }
            }
            return weight;
        }

        private boolean isInTimePricked(int pricked, int days) {
            ahead.follow(now);
            for (int man = 0; man < now.menCount(); man++) {
                if ((pricked >> man & 1) == 1) {
                    ahead.prick(man);
                }
            }
            return ahead.goToEnd(days) != NONE;
        }

        /** Ahead of the lots of CAMPAIGNS. */
        void setOut() {
            ahead.follow(now);
        }

        /** What a lot (0 .. 19) says is done, if it can be: the MILE. */
        int mileBehindLot(int lot) {
            if (lot < 5) {
                ahead.prick(lot);
            } else if (lot < 10) {
                ahead.ease(lot - 5);
            } else if (lot == 10) {
                ahead.stay();
            } else {
                ahead.goDay();
            }
            return ahead.mile();
        }
    }

    /** What is TRIED of an unknown MAN. */
    private static final class Trials {
        private final int[] thorns = new int[TRIED_LIMIT];
        private final int[] speeds = new int[TRIED_LIMIT];
        private final boolean[] slow = new boolean[TRIED_LIMIT];
        private int count;

        int count() {
            return count;
        }

        void forgetAll() {
            count = 0;
        }

        void add(int itsThorns, int itsSpeed, boolean orLess) {
            if (count < 0 || count >= TRIED_LIMIT) {
                return;
            }
            thorns[count] = itsThorns;
            speeds[count] = itsSpeed;
            slow[count] = orLess;
            count++;
        }

        private boolean fits(int kind, int pace) {
            for (int i = 0; i < count && i < TRIED_LIMIT; i++) {
                boolean isSlow = speedBy(pace, kind, thorns[i]) <= speeds[i];
                if (isSlow != slow[i]) {
                    return false;
                }
            }
            return true;
        }

        int fittingCount() {
            int fitting = 0;
            for (int kind = 0; kind < OLD; kind++) {
                for (int pace = 1; pace <= 9; pace++) {
                    if (fits(kind, pace)) {
                        fitting++;
                    }
                }
            }
            return fitting;
        }

        int firstFitting() {
            for (int kind = 0; kind < OLD; kind++) {
                for (int pace = 1; pace <= 9; pace++) {
                    if (fits(kind, pace)) {
                        return 10 * kind + pace;
                    }
                }
            }
            return NONE;
        }
    }
}
