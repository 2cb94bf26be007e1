import java.math.BigInteger;
import java.util.ArrayDeque;
import java.util.ArrayList;
import java.util.Arrays;
import java.util.Deque;
import java.util.List;
import java.util.regex.Matcher;
import java.util.regex.Pattern;

/**
 * The document told a second time, as plainly and slowly as it goes (copies of everything, orders written
 * out one by one), so that the class can be held against it.
 */
final class Model {
    static final int UNKNOWN = -1, BAD = -2, LATE = -3, FULL = -4, NONE = -9;

    /** A copy of where they stand; men that are not there are simply not in the rows. */
    static final class State {
        int mile;
        int day;
        List<int[]> men = new ArrayList<>(); // number, pace, kind, thorns

        State copy() {
            State s = new State();
            s.mile = mile;
            s.day = day;
            for (int[] m : men) {
                s.men.add(m.clone());
            }
            return s;
        }

        int[] man(int number) {
            for (int[] m : men) {
                if (m[0] == number) {
                    return m;
                }
            }
            return null;
        }
    }

    private String text = "";
    private List<int[]> road = new ArrayList<>(); // miles, ground
    private State now = new State();
    private final Deque<State> acts = new ArrayDeque<>();
    private State[] kept = new State[2];
    private final List<int[]> tried = new ArrayList<>();
    private long seed;

    // ---- the rules of a march

    private int end() {
        int sum = 0;
        for (int[] s : road) {
            sum += s[0];
        }
        return sum;
    }

    private int stretchOf(int mile) {
        int from = 0;
        for (int i = 0; i < road.size(); i++) {
            int to = from + road.get(i)[0];
            if (from <= mile && mile < to) {
                return i;
            }
            from = to;
        }
        return NONE;
    }

    static int speed(int pace, int kind, int thorns) {
        int by = kind == 1 ? 1 : kind == 2 ? 3 : 2;
        return Math.max(1, pace - by * thorns);
    }

    private static int[] leader(State s) {
        return s.men.stream().min((a, b) -> {
            int c = Integer.compare(speed(a[1], a[2], a[3]), speed(b[1], b[2], b[3]));
            return c != 0 ? c : Integer.compare(a[0], b[0]);
        }).orElse(null);
    }

    private static int leaderNumber(State s) {
        int[] l = leader(s);
        return l == null ? NONE : l[0];
    }

    private static void heal(State s) {
        for (int[] m : s.men) {
            if (m[2] != 3) {
                m[3] = Math.max(0, m[3] - 1);
            }
        }
    }

    private int march(State s) {
        int before = s.mile;
        int[] led = leader(s);
        if (s.mile < end() && led != null) {
            int ground = road.get(stretchOf(s.mile))[1];
            int go = speed(led[1], led[2], led[3]);
            if (ground == 1) {
                go = Math.max(1, go / 2);
            }
            if (ground == 2) {
                go = 1;
            }
            s.mile = Math.min(end(), s.mile + go);
            if (ground == 3) {
                led[3] = Math.min(9, led[3] + 1);
            }
        }
        if (s.day % 3 == 2) {
            heal(s);
        }
        s.day++;
        return s.mile - before;
    }

    private State in(State from, int days) {
        State s = from.copy();
        for (int i = 0; i < days; i++) {
            march(s);
        }
        return s;
    }

    private int comesFrom(State from, int most) {
        for (int days = 0; days <= most; days++) {
            if (in(from, days).mile == end()) {
                return days;
            }
        }
        return NONE;
    }

    // ---- the army

    int write(int letter) {
        if (letter < 0 || letter > 255) {
            return BAD;
        }
        if (text.length() == 48) {
            return FULL;
        }
        text += (char) letter;
        return text.length();
    }

    int wipe() {
        int was = text.length();
        text = "";
        return was;
    }

    private static boolean isArmy(String t) {
        if (!t.matches("A(S[1-9][0-3]|M[1-9][0-3][0-9])*")) {
            return false;
        }
        return count(t, 'S') <= 8 && count(t, 'M') <= 5;
    }

    private static int count(String t, char c) {
        return (int) t.chars().filter(x -> x == c).count();
    }

    /** Whether something behind it makes it an ARMY: what is lacking of a thing is at most three figures. */
    private static boolean canBegin(String t) {
        for (String more : new String[] {"", "A", "0", "10", "00", "100"}) {
            if (isArmy(t + more)) {
                return true;
            }
        }
        return false;
    }

    int fault() {
        if (isArmy(text)) {
            return NONE;
        }
        for (int place = 0; place < text.length(); place++) {
            if (!canBegin(text.substring(0, place + 1))) {
                return place;
            }
        }
        return text.length();
    }

    int army() {
        if (fault() != NONE) {
            return LATE;
        }
        road = new ArrayList<>();
        now = new State();
        Matcher m = Pattern.compile("S(.)(.)|M(.)(.)(.)").matcher(text);
        while (m.find()) {
            if (m.group(1) != null) {
                road.add(new int[] {Integer.parseInt(m.group(1)), Integer.parseInt(m.group(2))});
            } else {
                now.men.add(new int[] {now.men.size(), Integer.parseInt(m.group(3)),
                    Integer.parseInt(m.group(4)), Integer.parseInt(m.group(5))});
            }
        }
        acts.clear();
        kept = new State[2];
        return 10 * road.size() + now.men.size();
    }

    int about(int what) {
        int[] led = leader(now);
        int[] all = {road.size(), now.men.size(), end(), now.mile, now.day, leaderNumber(now),
            led == null ? 0 : speed(led[1], led[2], led[3]), stretchOf(now.mile), thorns(now), acts.size(),
            tried.size(), text.length()};
        return what < 0 || what >= all.length ? BAD : all[what];
    }

    private static int thorns(State s) {
        return s.men.stream().mapToInt(m -> m[3]).sum();
    }

    int man(int man, int what) {
        int[] m = now.man(man);
        if (m == null) {
            return UNKNOWN;
        }
        int[] all = {m[1], m[2], m[3], speed(m[1], m[2], m[3])};
        return what < 0 || what >= all.length ? BAD : all[what];
    }

    int stretch(int stretch, int what) {
        if (stretch < 0 || stretch >= road.size()) {
            return UNKNOWN;
        }
        int begin = 0;
        for (int[] s : road.subList(0, stretch)) {
            begin += s[0];
        }
        int[] all = {road.get(stretch)[0], road.get(stretch)[1], begin};
        return what < 0 || what >= all.length ? BAD : all[what];
    }

    // ---- acts

    private void remember() {
        acts.addLast(now.copy());
        if (acts.size() > 14) {
            acts.removeFirst();
        }
    }

    int day() {
        remember();
        return march(now);
    }

    int halt() {
        remember();
        heal(now);
        now.day++;
        return thorns(now);
    }

    int gravel(int man) {
        int[] m = now.man(man);
        if (m == null) {
            return UNKNOWN;
        }
        if (m[3] == 9) {
            return FULL;
        }
        remember();
        return ++m[3];
    }

    int pull(int man) {
        int[] m = now.man(man);
        if (m == null) {
            return UNKNOWN;
        }
        if (m[3] == 0) {
            return LATE;
        }
        remember();
        return --m[3];
    }

    int undo() {
        if (acts.isEmpty()) {
            return LATE;
        }
        now = acts.removeLast();
        return acts.size();
    }

    // ---- days to come

    int later(int n, int what) {
        if (n < 0 || n > 40 || what < 0 || what > 1) {
            return BAD;
        }
        State s = in(now, n);
        return what == 0 ? s.mile : leaderNumber(s);
    }

    int comes() {
        return comesFrom(now, 60);
    }

    int leads(int man) {
        if (now.man(man) == null) {
            return UNKNOWN;
        }
        for (int days = 0; days <= 40; days++) {
            if (leaderNumber(in(now, days)) == man) {
                return days;
            }
        }
        return NONE;
    }

    int cure(int what) {
        if (what < 0 || what > 1) {
            return BAD;
        }
        int who = NONE;
        int fewest = NONE;
        for (int[] m : now.men) {
            if (m[3] > 0) {
                State s = now.copy();
                s.man(m[0])[3]--;
                int days = comesFrom(s, 60);
                if (days != NONE && (who == NONE || days < fewest)) {
                    who = m[0];
                    fewest = days;
                }
            }
        }
        return what == 0 ? who : fewest;
    }

    int plan(int n, int what) {
        if (n < 0 || n > 20 || what < 0 || what > 1) {
            return BAD;
        }
        for (int total = 0; total <= 15; total++) {
            List<String> ways = new ArrayList<>();
            ways(total, "", ways);
            ways.sort(null);
            for (String way : ways) {
                State s = now.copy();
                for (int i = 0; i < way.length(); i++) {
                    s.men.get(i)[3] -= way.charAt(i) - '0';
                }
                if (comesFrom(s, n) != NONE) {
                    return what == 0 ? total : Integer.parseInt("0" + way);
                }
            }
        }
        return NONE;
    }

    private void ways(int left, String way, List<String> ways) {
        if (way.length() == now.men.size()) {
            if (left == 0) {
                ways.add(way);
            }
            return;
        }
        for (int k = 0; k <= 3 && k <= left && k <= now.men.get(way.length())[3]; k++) {
            ways(left - k, way + k, ways);
        }
    }

    int judge(int n, long row) {
        if (n < 1 || n > 4 || row < 0 || Long.toString(row).length() > 3 * n) {
            return BAD;
        }
        String figures = String.format("%0" + 3 * n + "d", row);
        State s = now.copy();
        for (int place = 0; place < n; place++) {
            String doing = figures.substring(3 * place, 3 * place + 3);
            if (!does(s, doing)) {
                return place;
            }
        }
        return NONE;
    }

    private boolean does(State s, String doing) {
        int middle = doing.charAt(1) - '0';
        int last = doing.charAt(2) - '0';
        int[] m = s.man(last);
        if (doing.equals("000")) {
            march(s);
            return true;
        }
        if (doing.equals("100")) {
            heal(s);
            s.day++;
            return true;
        }
        if (doing.startsWith("20") && m != null && m[3] < 9) {
            m[3]++;
            return true;
        }
        if (doing.startsWith("30") && m != null && m[3] > 0) {
            m[3]--;
            return true;
        }
        if (doing.startsWith("40")) {
            return leaderNumber(s) == last;
        }
        if (doing.startsWith("5")) {
            return s.man(middle) != null && s.man(middle)[3] >= last;
        }
        return doing.startsWith("6") && s.mile >= Integer.parseInt(doing.substring(1));
    }

    int share(int man, boolean upper) {
        if (now.man(man) == null) {
            return UNKNOWN;
        }
        List<List<Integer>> orders = new ArrayList<>();
        orders(new ArrayList<>(), orders);
        long sum = 0;
        for (List<Integer> order : orders) {
            int at = order.indexOf(man);
            sum += mileOf(order.subList(0, at)) - mileOf(order.subList(0, at + 1));
        }
        return fraction(BigInteger.valueOf(sum), BigInteger.valueOf(orders.size()), upper);
    }

    private void orders(List<Integer> order, List<List<Integer>> orders) {
        if (order.size() == now.men.size()) {
            orders.add(new ArrayList<>(order));
        }
        for (int man = 0; man < now.men.size(); man++) {
            if (!order.contains(man)) {
                order.add(man);
                orders(order, orders);
                order.remove(order.size() - 1);
            }
        }
    }

    private int mileOf(List<Integer> some) {
        if (some.isEmpty()) {
            return end();
        }
        State s = now.copy();
        s.men.removeIf(m -> !some.contains(m[0]));
        return in(s, 5).mile;
    }

    private static int fraction(BigInteger above, BigInteger below, boolean upper) {
        BigInteger common = above.gcd(below);
        return (upper ? above : below).divide(common).intValueExact();
    }

    // ---- tried

    int attempt(int t, int v, int slow) {
        if (t < 0 || t > 3 || v < 1 || v > 9 || slow < 0 || slow > 1) {
            return BAD;
        }
        if (tried.size() == 6) {
            return FULL;
        }
        tried.add(new int[] {t, v, slow});
        return tried.size();
    }

    int unattempt() {
        int was = tried.size();
        tried.clear();
        return was;
    }

    int paces(int what) {
        if (what < 0 || what > 1) {
            return BAD;
        }
        List<Integer> fitting = new ArrayList<>();
        for (int kind = 0; kind <= 2; kind++) {
            for (int pace = 1; pace <= 9; pace++) {
                int k = kind;
                int p = pace;
                if (tried.stream().allMatch(a -> a[2] == 1 ? speed(p, k, a[0]) <= a[1] : speed(p, k, a[0]) > a[1])) {
                    fitting.add(10 * kind + pace);
                }
            }
        }
        return what == 0 ? fitting.size() : fitting.isEmpty() ? NONE : fitting.get(0);
    }

    // ---- rests, chances

    private int[] gains(int one, int other, int a, int b) {
        State s = now.copy();
        s.man(one)[3] = Math.min(9, s.man(one)[3] + a);
        s.man(other)[3] = Math.min(9, s.man(other)[3] + b);
        s = in(s, 3);
        int gone = s.mile - now.mile;
        int led = leaderNumber(s);
        return new int[] {gone + (led == one ? 4 : 0) - a, gone + (led == other ? 4 : 0) - b};
    }

    int rests(int one, int other, int what) {
        if (now.man(one) == null || now.man(other) == null) {
            return UNKNOWN;
        }
        if (one == other || what < 0 || what > 1) {
            return BAD;
        }
        List<Integer> rests = new ArrayList<>();
        for (int a = 0; a <= 1; a++) {
            for (int b = 0; b <= 1; b++) {
                int[] here = gains(one, other, a, b);
                boolean oneMoves = gains(one, other, 1 - a, b)[0] > here[0];
                boolean otherMoves = gains(one, other, a, 1 - b)[1] > here[1];
                if (!oneMoves && !otherMoves) {
                    rests.add(10 * a + b);
                }
            }
        }
        return what == 0 ? rests.size() : rests.isEmpty() ? NONE : rests.get(0);
    }

    int thorny(int n, int x, boolean upper) {
        if (n < 0 || n > 20 || x < 0 || x > 10) {
            return BAD;
        }
        return fraction(chance(now, 0, n, x), BigInteger.TEN.pow(now.men.size()), upper);
    }

    private BigInteger chance(State s, int man, int n, int x) {
        if (man == s.men.size()) {
            return comesFrom(s, n) == NONE ? BigInteger.ZERO : BigInteger.ONE;
        }
        State pricked = s.copy();
        pricked.men.get(man)[3] = Math.min(9, pricked.men.get(man)[3] + 1);
        return chance(pricked, man + 1, n, x).multiply(BigInteger.valueOf(x))
            .add(chance(s, man + 1, n, x).multiply(BigInteger.valueOf(10 - x)));
    }

    long seed(long v) {
        long was = seed;
        seed = v;
        return was;
    }

    int campaigns(int m) {
        if (m < 1 || m > 30) {
            return BAD;
        }
        State s = now.copy();
        int sum = 0;
        for (int i = 0; i < m; i++) {
            BigInteger next = BigInteger.valueOf(seed).multiply(new BigInteger("6364136223846793005"))
                .add(new BigInteger("1442695040888963407")).mod(BigInteger.ONE.shiftLeft(64));
            seed = next.longValue();
            int lot = next.shiftRight(33).mod(BigInteger.valueOf(20)).intValue();
            if (lot <= 4) {
                does(s, "20" + lot);
            } else if (lot <= 9) {
                does(s, "30" + (lot - 5));
            } else {
                does(s, lot == 10 ? "100" : "000");
            }
            sum += s.mile;
        }
        return sum;
    }

    // ---- slots

    int keep(int slot) {
        if (slot < 0 || slot > 1) {
            return UNKNOWN;
        }
        kept[slot] = now.copy();
        return now.day;
    }

    int again(int slot) {
        if (slot < 0 || slot > 1) {
            return UNKNOWN;
        }
        if (kept[slot] == null) {
            return LATE;
        }
        now = kept[slot].copy();
        acts.clear();
        return now.day;
    }

    @Override
    public String toString() {
        StringBuilder s = new StringBuilder("mile " + now.mile + ", day " + now.day + ", men");
        for (int[] m : now.men) {
            s.append(' ').append(Arrays.toString(m));
        }
        s.append(", road");
        for (int[] r : road) {
            s.append(' ').append(Arrays.toString(r));
        }
        return s.toString();
    }
}
