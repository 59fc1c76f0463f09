import java.util.ArrayList;
import java.util.HashMap;
import java.util.List;
import java.util.Map;
import java.util.Random;

/**
 * Long runs of calls by chance (with seeds that stay), each answer against a model that follows the document's
 * words by plain recursion and shares no code with the class.
 */
public final class ModelTest {
    private static final int NONE = -1000000, BAD = -1000001, STATE = -1000002, FULL = -1000003;
    private static final int RUNS = 120, CALLS = 512;

    private static int wrong = 0;

    public static void main(String[] args) {
        for (int seed = 1; seed <= RUNS; seed++) {
            new Run(seed).go();
        }
        System.out.println(wrong == 0 ? "the class and the model agree" : wrong + " answers differ");
        if (wrong != 0) {
            System.exit(1);
        }
    }

    /** The document, in its plainest form. */
    static final class Model {
        int[][] sheets = new int[8][];
        int[] lanes = new int[8];
        List<int[]> strikers = new ArrayList<>();
        int[] order = {};
        int[] teams = {NONE, NONE};
        List<Integer> trace = new ArrayList<>();
        int status = 0;
        Map<Long, Long> memo = new HashMap<>();

        int found(int number) {
            status = number;
            return -1000010 - number;
        }

        int fine(int answer) {
            status = 0;
            return answer;
        }

        static boolean in(int v, int least, int most) {
            return least <= v && v <= most;
        }

        boolean isStriker(int s) {
            return in(s, 0, strikers.size() - 1);
        }

        boolean isPlace(int p) {
            return in(p, 0, order.length - 1);
        }

        static boolean fits(int[] items, long from, long n) {
            return from >= 0 && n >= 0 && from + n <= items.length;
        }

        int sheet(int s, int lane, int n) {
            if (!in(s, 0, 7) || !in(lane, 0, 2) || n > 60) {
                return BAD;
            }
            if (n < 0) {
                return found(4);
            }
            sheets[s] = new int[n];
            lanes[s] = lane;
            return fine(n);
        }

        int set(int s, int i, int v) {
            if (!in(s, 0, 7)) {
                return BAD;
            }
            if (sheets[s] == null) {
                return found(1);
            }
            if (!in(i, 0, sheets[s].length - 1)) {
                return found(2);
            }
            int bits = 32 - (8 << lanes[s]);
            sheets[s][i] = v << bits >> bits;
            return fine(sheets[s][i]);
        }

        int copy(int a, int i, int b, int j, int n) {
            if (!in(a, 0, 7) || !in(b, 0, 7)) {
                return BAD;
            }
            if (sheets[a] == null || sheets[b] == null) {
                return found(1);
            }
            if (lanes[a] != lanes[b]) {
                return found(5);
            }
            if (!fits(sheets[a], i, n) || !fits(sheets[b], j, n)) {
                return found(2);
            }
            int[] ahead = sheets[a].clone();
            for (int k = 0; k < n; k++) {
                sheets[b][j + k] = ahead[i + k];
            }
            return fine(n);
        }

        int drop(int s) {
            if (!in(s, 0, 7)) {
                return BAD;
            }
            if (sheets[s] == null) {
                return found(1);
            }
            int n = sheets[s].length;
            sheets[s] = null;
            return fine(n);
        }

        /** {STANDING, RUNS} behind an ACT; null: it cannot be. Men are moved one by one, the foremost first. */
        static int[] after(int standing, int act) {
            boolean[] on = {false, (standing & 1) != 0, (standing & 2) != 0, (standing & 4) != 0};
            int outs = standing / 8;
            int home = 0;
            if (act >= 7 && (!on[1] || on[2])) {
                return null;
            }
            if (act == 0 || act == 6 || act == 8) {
                outs++;
                if (outs == 3) {
                    return new int[] {24, 0};
                }
            }
            if (act == 1) {
                int driven = 1;
                while (driven <= 3 && on[driven]) {
                    driven++;
                }
                if (driven == 4) {
                    home++;
                } else {
                    on[driven] = true;
                }
            } else if (act >= 2 && act <= 6) {
                int[] goesOn = {0, 0, 1, 2, 3, 4, 1};
                boolean[] moved = new boolean[4];
                for (int base = 3; base >= 1; base--) {
                    if (on[base]) {
                        if (base + goesOn[act] >= 4) {
                            home++;
                        } else {
                            moved[base + goesOn[act]] = true;
                        }
                    }
                }
                if (act == 5) {
                    home++;
                } else if (act != 6) {
                    moved[act - 1] = true;
                }
                on = moved;
            } else if (act >= 7) {
                on[1] = false;
                on[2] = act == 7;
            }
            return new int[] {outs * 8 + (on[1] ? 1 : 0) + (on[2] ? 2 : 0) + (on[3] ? 4 : 0), home};
        }

        int behind(int standing, int act, int what) {
            if (!in(standing, 0, 23) || !in(act, 0, 8) || !in(what, 0, 1)) {
                return BAD;
            }
            int[] there = after(standing, act);
            return there == null ? NONE : there[what];
        }

        int striker(int walk, int single, int two, int three, int homer, int steals) {
            int[] made = {0, walk, single, two, three, homer, steals};
            for (int v : made) {
                if (!in(v, 0, 1000)) {
                    return BAD;
                }
            }
            made[0] = 1000 - walk - single - two - three - homer;
            if (made[0] < 0) {
                return BAD;
            }
            if (strikers.size() == 12) {
                return FULL;
            }
            strikers.add(made);
            return strikers.size() - 1;
        }

        int train(int s, int act, int v) {
            if (!isStriker(s) || !in(act, 1, 6) || !in(v, 0, 1000)) {
                return BAD;
            }
            int[] made = strikers.get(s).clone();
            int before = made[act];
            made[act] = v;
            made[0] = 1000 - made[1] - made[2] - made[3] - made[4] - made[5];
            if (made[0] < 0) {
                return STATE;
            }
            strikers.set(s, made);
            return before;
        }

        int chance(int s, int act) {
            return isStriker(s) && in(act, 0, 6) ? strikers.get(s)[act] : BAD;
        }

        int order(int s, int i, int n) {
            if (!in(s, 0, 7) || !in(n, 1, 9)) {
                return BAD;
            }
            if (sheets[s] == null) {
                return found(1);
            }
            if (!fits(sheets[s], i, n)) {
                return found(2);
            }
            int[] row = new int[n];
            for (int k = 0; k < n; k++) {
                row[k] = sheets[s][i + k];
                if (!isStriker(row[k])) {
                    return BAD;
                }
            }
            order = row;
            return fine(n);
        }

        int striking(int place) {
            return place == NONE ? order.length : isPlace(place) ? order[place] : BAD;
        }

        long meanOf(int[] row, int standing, int place, int n) {
            if (n == 0 || standing == 24) {
                return 0;
            }
            long key = ((standing * 16L) + place) * 64 + n;
            Long known = memo.get(key);
            if (known != null) {
                return known;
            }
            long sum = 0;
            int[] chances = strikers.get(row[place]);
            for (int act = 0; act <= 5; act++) {
                int[] there = after(standing, act);
                if (chances[act] > 0) {
                    sum += chances[act] * (there[1] * 1000000L + meanOf(row, there[0], (place + 1) % row.length, n - 1));
                }
            }
            memo.put(key, sum / 1000);
            return sum / 1000;
        }

        long freshMean(int[] row, int standing, int place, int n) {
            memo.clear();
            return meanOf(row, standing, place, n);
        }

        int mean(int standing, int place, int n) {
            if (!in(standing, 0, 24) || !isPlace(place) || !in(n, 0, 30)) {
                return BAD;
            }
            return (int) freshMean(order, standing, place, n);
        }

        long justOf(int standing, int place, int n, int r) {
            if (r < 0) {
                return 0;
            }
            if (n == 0 || standing == 24) {
                return r == 0 ? 1000000 : 0;
            }
            return overActs(standing, place, n, r, false);
        }

        long orMoreOf(int standing, int place, int n, int k) {
            if (k <= 0) {
                return 1000000;
            }
            if (n == 0 || standing == 24) {
                return 0;
            }
            return overActs(standing, place, n, k, true);
        }

        long overActs(int standing, int place, int n, int r, boolean orMore) {
            long key = (((standing * 16L) + place) * 64 + n) * 16 + r;
            Long known = memo.get(key);
            if (known != null) {
                return known;
            }
            long sum = 0;
            int next = (place + 1) % order.length;
            for (int act = 0; act <= 5; act++) {
                int[] there = after(standing, act);
                int rest = r - there[1];
                long c = strikers.get(order[place])[act];
                sum += c * (orMore ? orMoreOf(there[0], next, n - 1, rest) : justOf(there[0], next, n - 1, rest));
            }
            memo.put(key, sum / 1000);
            return sum / 1000;
        }

        int likely(int standing, int place, int n, int r) {
            if (!in(standing, 0, 24) || !isPlace(place) || !in(n, 0, 30) || !in(r, 0, 9)) {
                return BAD;
            }
            memo.clear();
            return (int) (r == 9 ? orMoreOf(standing, place, n, 9) : justOf(standing, place, n, r));
        }

        int worth(int standing, int act, int place, int n) {
            if (!in(standing, 0, 23) || !in(act, 0, 6) || !isPlace(place) || !in(n, 1, 30)) {
                return BAD;
            }
            int[] there = after(standing, act);
            long then = freshMean(order, there[0], (place + 1) % order.length, n - 1);
            return (int) (there[1] * 1000000L + then - freshMean(order, standing, place, n));
        }

        int rateOf(int[] row) {
            memo.clear();
            return (int) (meanOf(row, 0, 0, 30) + meanOf(row, 0, row.length / 2, 30));
        }

        int rate() {
            return order.length == 0 ? STATE : rateOf(order);
        }

        int swapped() {
            if (order.length == 0) {
                return STATE;
            }
            int many = 0;
            boolean better = true;
            while (better && many < 40) {
                better = false;
                int before = rateOf(order);
                for (int a = 0; a < order.length && !better; a++) {
                    for (int b = a + 1; b < order.length && !better; b++) {
                        int[] other = order.clone();
                        other[a] = order[b];
                        other[b] = order[a];
                        if (rateOf(other) > before) {
                            better = true;
                            order = other;
                            many++;
                        }
                    }
                }
            }
            return many;
        }

        int bestRate;
        int[] bestRow;

        void allOrders(int[] from, boolean[] used, int[] row, int at) {
            if (at == from.length) {
                int here = rateOf(row);
                if (bestRow == null || here > bestRate
                        || here == bestRate && java.util.Arrays.compare(row, bestRow) < 0) {
                    bestRate = here;
                    bestRow = row.clone();
                }
                return;
            }
            for (int k = 0; k < from.length; k++) {
                if (!used[k]) {
                    used[k] = true;
                    row[at] = from[k];
                    allOrders(from, used, row, at + 1);
                    used[k] = false;
                }
            }
        }

        int best() {
            if (order.length == 0 || order.length > 6) {
                return STATE;
            }
            bestRow = null;
            allOrders(order, new boolean[order.length], new int[order.length], 0);
            order = bestRow;
            return bestRate;
        }

        int team(int team, int s) {
            if (!in(team, 0, 1) || !isStriker(s)) {
                return BAD;
            }
            int before = teams[team];
            teams[team] = s;
            return before;
        }

        int choice;

        long win(int halves, int lead, int standing, int n) {
            int held = Math.max(-9, Math.min(9, lead));
            choice = NONE;
            if (halves == 0) {
                return held > 0 ? 1000000 : held == 0 ? 500000 : 0;
            }
            if (standing == 24 || n == 0) {
                long behind = win(halves - 1, held, 0, 12);
                choice = NONE;
                return behind;
            }
            long key = ((halves * 32L + held + 9) * 32 + standing) * 16 + n;
            Long known = memo.get(key);
            if (known != null) {
                choice = (int) (known % 4);
                return known / 4;
            }
            int[] striker = strikers.get(teams[halves % 2]);
            long strike = 0;
            for (int act = 0; act <= 5; act++) {
                strike += striker[act] * winBehind(halves, held, standing, n, act);
            }
            long[] by = {strike / 1000, -1, -1};
            if (standing % 8 != 0) {
                by[1] = winBehind(halves, held, standing, n, 6);
            }
            if (after(standing, 7) != null) {
                by[2] = (striker[6] * winBehind(halves, held, standing, n, 7)
                    + (1000 - striker[6]) * winBehind(halves, held, standing, n, 8)) / 1000;
            }
            int chosen = 0;
            for (int c = 1; c <= 2; c++) {
                if (by[c] >= 0 && (halves % 2 == 0 ? by[c] > by[chosen] : by[c] < by[chosen])) {
                    chosen = c;
                }
            }
            memo.put(key, by[chosen] * 4 + chosen);
            choice = chosen;
            return by[chosen];
        }

        long winBehind(int halves, int lead, int standing, int n, int act) {
            int[] there = after(standing, act);
            return win(halves, halves % 2 == 0 ? lead + there[1] : lead - there[1], there[0], n - 1);
        }

        int game(int halves, int lead, int standing, int n, int what) {
            if (!in(halves, 0, 5) || !in(lead, -9, 9) || !in(standing, 0, 24) || !in(n, 0, 12) || !in(what, 0, 2)) {
                return BAD;
            }
            if (teams[0] == NONE || teams[1] == NONE) {
                return STATE;
            }
            memo.clear();
            long win = win(halves, lead, standing, n);
            if (what == 0) {
                return (int) win;
            }
            if (what == 1) {
                return choice;
            }
            if (choice == NONE) {
                return 0;
            }
            long walked = winBehind(halves, lead, standing, n, 1);
            return (halves % 2 == 0 ? walked < win : walked > win) ? 1 : 0;
        }

        int[] times = new int[9];
        int clash;
        int runs;
        int over;
        int last;

        /** 0, or the number of a FINDING. */
        int read(int s, int i, int n) {
            if (sheets[s] == null) {
                return 1;
            }
            if (!fits(sheets[s], i, 3L * n)) {
                return 2;
            }
            times = new int[9];
            clash = NONE;
            runs = 0;
            over = 0;
            last = 0;
            for (int row = 0; row < n; row++) {
                int act = sheets[s][i + 3 * row];
                int[] there = in(act, 0, 8) ? after(last % 24, act) : null;
                if (there == null || there[0] != sheets[s][i + 3 * row + 1]
                        || there[1] != sheets[s][i + 3 * row + 2]) {
                    clash = row;
                    break;
                }
                times[act]++;
                runs += there[1];
                last = there[0];
                over += last / 24;
            }
            return 0;
        }

        int log(int s, int i, int n, int what) {
            if (!in(s, 0, 7) || !in(n, 1, 20) || !in(what, 0, 3) && !in(what, 10, 18)) {
                return BAD;
            }
            int number = read(s, i, n);
            if (number != 0) {
                return found(number);
            }
            int[] first = {clash, runs, over, last};
            return fine(what < 4 ? first[what] : times[what - 10]);
        }

        int learn(int s, int i, int n, int steals) {
            if (!in(s, 0, 7) || !in(n, 1, 20) || !in(steals, 0, 1000)) {
                return BAD;
            }
            if (strikers.size() == 12) {
                return FULL;
            }
            int number = read(s, i, n);
            if (number != 0) {
                return found(number);
            }
            int all = 0;
            for (int act = 0; act <= 5; act++) {
                all += times[act];
            }
            if (all == 0) {
                return STATE;
            }
            int[] made = {0, 0, 0, 0, 0, 0, steals};
            int left = 1000;
            for (int act = 0; act <= 5; act++) {
                made[act] = times[act] * 1000 / all;
                left -= made[act];
            }
            made[0] += left;
            strikers.add(made);
            return fine(strikers.size() - 1);
        }

        int kindOf(int s) {
            int[] c = strikers.get(s);
            boolean safe = c[0] <= 650;
            if (safe && c[4] + c[5] >= 60) {
                return 2;
            }
            return safe ? 1 : c[6] >= 700 ? 3 : 0;
        }

        int kind(int s) {
            return isStriker(s) ? kindOf(s) : BAD;
        }

        int as(int s, int kind) {
            if (!isStriker(s) || !in(kind, 0, 3)) {
                return BAD;
            }
            int told = kindOf(s);
            boolean is = kind == 0 || kind == told || told == 2 && kind == 1;
            return is ? fine(strikers.get(s)[0]) : found(3);
        }

        int body(int number, int s) {
            int[] c = strikers.get(s);
            trace.add(number);
            switch (number) {
                case 10: return c[6];
                case 11: return body(10, s) + 1000 - c[0];
                case 12: return 2 * body(11, s);
                case 13: return body(10, s) - body(20 + kindOf(s), s);
                case 20: return c[5];
                case 21: return body(20, s) + 100;
                case 22: return body(21, s) + body(10 + kindOf(s), s);
                default: return body(20, s) / 2;
            }
        }

        int ask(int s, int what) {
            if (!isStriker(s) || !in(what, 0, 1)) {
                return BAD;
            }
            trace.clear();
            return body(10 + 10 * what + kindOf(s), s);
        }

        int trace(int i) {
            return in(i, 0, Math.min(16, trace.size()) - 1) ? trace.get(i) : NONE;
        }

        int count(int what) {
            int[] many = new int[7];
            for (int[] sheet : sheets) {
                many[0] += sheet == null ? 0 : 1;
            }
            many[1] = strikers.size();
            for (int s = 0; s < many[1]; s++) {
                int told = kindOf(s);
                many[2] += told == 1 || told == 2 ? 1 : 0;
                many[3] += told == 2 ? 1 : 0;
                many[4] += told == 3 ? 1 : 0;
            }
            many[5] = order.length;
            many[6] = (teams[0] == NONE ? 0 : 1) + (teams[1] == NONE ? 0 : 1);
            return in(what, 0, 6) ? many[what] : BAD;
        }
    }

    /** One object, one model, and calls with numbers that are mostly as told, now and then at an edge or beyond. */
    static final class Run {
        final int seed;
        final Random random;
        final InningsHouse house = new InningsHouse();
        final Model model = new Model();
        int calls = 0;
        int dear = 0;

        Run(int seed) {
            this.seed = seed;
            random = new Random(seed);
        }

        void go() {
            while (calls < CALLS) {
                step();
            }
        }

        void same(String call, int got, int want) {
            calls++;
            // What later calls answer is free.
            if (got != want && calls <= CALLS) {
                wrong++;
                System.out.println("seed " + seed + ", call " + calls + ": " + call + " answered " + got
                    + ", the model " + want);
            }
        }

        int num(int least, int most) {
            int dice = random.nextInt(60);
            if (dice == 0) {
                int[] far = {least - 1, most + 1, Integer.MIN_VALUE, Integer.MAX_VALUE, NONE, -1};
                return far[random.nextInt(far.length)];
            }
            if (dice == 1) {
                return least;
            }
            if (dice == 2) {
                return most;
            }
            return most < least ? least : least + random.nextInt(most - least + 1);
        }

        int someSheet() {
            return num(0, random.nextInt(4) == 0 ? 7 : 2);
        }

        int someStriker() {
            return num(0, Math.max(0, model.strikers.size() - 1));
        }

        int somePlace() {
            return num(0, Math.max(0, model.order.length - 1));
        }

        void step() {
            switch (random.nextInt(24)) {
                case 0: sheet(someSheet(), num(0, 2), num(0, random.nextBoolean() ? 60 : 12)); break;
                case 1: set(someSheet(), num(0, 20), random.nextBoolean() ? num(0, 11) : random.nextInt()); break;
                case 2: copy(); break;
                case 3: if (random.nextInt(4) == 0) { drop(someSheet()); } break;
                case 4: behind(); break;
                case 5: striker(); break;
                case 6: train(); break;
                case 7: chance(); break;
                case 8: case 9: writeOrder(); break;
                case 10: striking(); break;
                case 11: case 12: mean(); break;
                case 13: likely(); break;
                case 14: worth(); break;
                case 15: orders(); break;
                case 16: team(); break;
                case 17: case 18: game(); break;
                case 19: writeLog(); break;
                case 20: log(); break;
                case 21: learn(); break;
                case 22: asked(); break;
                default: countAll(); break;
            }
            same("status()", house.status(), model.status);
        }

        void sheet(int s, int lane, int n) {
            same("sheet(" + s + ", " + lane + ", " + n + ")", house.sheet(s, lane, n), model.sheet(s, lane, n));
        }

        void set(int s, int i, int v) {
            same("set(" + s + ", " + i + ", " + v + ")", house.set(s, i, v), model.set(s, i, v));
        }

        void copy() {
            int a = someSheet();
            int i = num(0, 10);
            int b = someSheet();
            int j = num(0, 10);
            int n = num(0, 10);
            same("copy(" + a + ", " + i + ", " + b + ", " + j + ", " + n + ")",
                house.copy(a, i, b, j, n), model.copy(a, i, b, j, n));
        }

        void drop(int s) {
            same("drop(" + s + ")", house.drop(s), model.drop(s));
        }

        void behind() {
            int s = num(0, 23);
            int act = num(0, 8);
            int what = num(0, 1);
            same("behind(" + s + ", " + act + ", " + what + ")", house.behind(s, act, what), model.behind(s, act, what));
        }

        void striker() {
            int most = random.nextInt(6) == 0 ? 400 : 190;
            int[] v = new int[6];
            for (int k = 0; k < 5; k++) {
                v[k] = random.nextInt(4) == 0 ? 0 : num(0, most);
            }
            v[5] = num(0, 1000);
            same("striker(..)", house.striker(v[0], v[1], v[2], v[3], v[4], v[5]),
                model.striker(v[0], v[1], v[2], v[3], v[4], v[5]));
        }

        void train() {
            int s = someStriker();
            int act = num(1, 6);
            int v = num(0, act == 6 || random.nextInt(5) == 0 ? 1000 : 250);
            same("train(" + s + ", " + act + ", " + v + ")", house.train(s, act, v), model.train(s, act, v));
        }

        void chance() {
            int s = someStriker();
            for (int act = -1; act <= 7; act++) {
                same("chance(" + s + ", " + act + ")", house.chance(s, act), model.chance(s, act));
            }
        }

        void writeOrder() {
            int s = someSheet();
            int n = num(1, random.nextInt(3) == 0 ? 9 : 6);
            for (int k = 0; k < Math.min(n, 9); k++) {
                set(s, k, someStriker());
            }
            int i = random.nextInt(5) == 0 ? num(0, 9) : 0;
            same("order(" + s + ", " + i + ", " + n + ")", house.order(s, i, n), model.order(s, i, n));
        }

        void striking() {
            same("striking(NONE)", house.striking(NONE), model.striking(NONE));
            int p = somePlace();
            same("striking(" + p + ")", house.striking(p), model.striking(p));
        }

        void mean() {
            int s = num(0, 24);
            int p = somePlace();
            int n = num(0, 30);
            same("mean(" + s + ", " + p + ", " + n + ")", house.mean(s, p, n), model.mean(s, p, n));
        }

        void likely() {
            int s = num(0, 24);
            int p = somePlace();
            int n = num(0, 30);
            int r = num(0, 9);
            same("likely(" + s + ", " + p + ", " + n + ", " + r + ")", house.likely(s, p, n, r), model.likely(s, p, n, r));
        }

        void worth() {
            int s = num(0, 23);
            int act = num(0, 6);
            int p = somePlace();
            int n = num(1, 30);
            same("worth(" + s + ", " + act + ", " + p + ", " + n + ")", house.worth(s, act, p, n), model.worth(s, act, p, n));
        }

        /** The model tries all orders the slow way, so a run does so only a few times. */
        void orders() {
            same("rate()", house.rate(), model.rate());
            if (dear < 2 && model.order.length > 0) {
                dear++;
                if (random.nextBoolean()) {
                    same("swapped()", house.swapped(), model.swapped());
                } else {
                    same("best()", house.best(), model.best());
                }
                for (int p = 0; p < model.order.length; p++) {
                    same("striking(" + p + ") behind it", house.striking(p), model.striking(p));
                }
            }
        }

        void team() {
            int t = num(0, 1);
            int s = someStriker();
            same("team(" + t + ", " + s + ")", house.team(t, s), model.team(t, s));
        }

        void game() {
            int h = num(0, 5);
            int lead = random.nextBoolean() ? num(-2, 2) : num(-9, 9);
            int s = num(0, 24);
            int n = num(0, 12);
            for (int what = 0; what <= 2; what++) {
                same("game(" + h + ", " + lead + ", " + s + ", " + n + ", " + what + ")",
                    house.game(h, lead, s, n, what), model.game(h, lead, s, n, what));
            }
        }

        void writeLog() {
            int s = num(0, 2);
            int n = 1 + random.nextInt(8);
            sheet(s, num(0, 2), 3 * n + random.nextInt(4));
            int standing = 0;
            for (int row = 0; row < n; row++) {
                int act = random.nextInt(4) == 0 ? 6 + random.nextInt(3) : random.nextInt(6);
                int[] there = Model.after(standing, act);
                if (there == null) {
                    act = random.nextInt(10) == 0 ? act : 0;
                    there = Model.after(standing, 0);
                }
                set(s, 3 * row, random.nextInt(40) == 0 ? random.nextInt(20) - 5 : act);
                set(s, 3 * row + 1, random.nextInt(40) == 0 ? num(0, 24) : there[0]);
                set(s, 3 * row + 2, random.nextInt(40) == 0 ? num(0, 3) : there[1]);
                standing = there[0] % 24;
            }
            for (int what = 0; what <= 18; what++) {
                logOf(s, 0, n, what);
            }
        }

        void logOf(int s, int i, int n, int what) {
            same("log(" + s + ", " + i + ", " + n + ", " + what + ")", house.log(s, i, n, what), model.log(s, i, n, what));
        }

        void log() {
            logOf(someSheet(), num(0, 6), num(1, 20), random.nextBoolean() ? num(0, 3) : num(10, 18));
        }

        void learn() {
            int s = someSheet();
            int i = random.nextInt(4) == 0 ? num(0, 6) : 0;
            int n = num(1, 9);
            int steals = num(0, 1000);
            same("learn(" + s + ", " + i + ", " + n + ", " + steals + ")",
                house.learn(s, i, n, steals), model.learn(s, i, n, steals));
        }

        void asked() {
            int s = someStriker();
            int k = num(0, 3);
            int what = num(0, 1);
            same("kind(" + s + ")", house.kind(s), model.kind(s));
            same("as(" + s + ", " + k + ")", house.as(s, k), model.as(s, k));
            same("ask(" + s + ", " + what + ")", house.ask(s, what), model.ask(s, what));
            for (int i = -1; i <= 6; i++) {
                same("trace(" + i + ")", house.trace(i), model.trace(i));
            }
        }

        void countAll() {
            int what = num(0, 6);
            same("count(" + what + ")", house.count(what), model.count(what));
        }
    }
}
