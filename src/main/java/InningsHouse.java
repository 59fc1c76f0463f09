import java.util.Arrays;

/**
 * A field game of runners by standings, strikers and chances.
 * ../shared/DOC.md tells what each call promises; refusals are answers, and no call throws.
 */
public final class InningsHouse {
    public static final int NONE = -1000000, BAD = -1000001, STATE = -1000002, FULL = -1000003;

    private static final int FINDINGS = -1000010;
    private static final int NULL = 1, PLACE = 2, KIND = 3, SIZE = 4, STORE = 5;

    private static final int MOST_SHEETS = 8, MOST_STRIKERS = 12, MOST_PLACES = 9, MOST_PLACES_OF_BEST = 6;
    private static final int MOST_STRIKES = 30, MOST_RUNS = 9;
    private static final int MOST_HALVES = 5, MOST_LEAD = 9, MOST_STRIKES_OF_HALF = 12;
    private static final int MOST_ROWS = 20, ITEMS_OF_ROW = 3;
    private static final int OVER = 24;
    private static final int WHOLE = 1000, MILLION = 1000000;

    private static final int OUT = 0, WALK = 1, SINGLE = 2, DOUBLE = 3, TRIPLE = 4, HOMER = 5;
    private static final int BUNT = 6, STEAL = 7, CAUGHT = 8, ACTS = 9;
    /** Where the calls train() and chance() name an ACT, this one names STEALS. */
    private static final int STEALS = 6;

    private static final int PLAIN = 0, SAFE = 1, STRONG = 2, QUICK = 3;

    private final Sheet[] sheets;
    private final Striker[] strikers;
    private int strikerCount;
    private final Bases bases;
    private final Lineup lineup;
    private final Match match;
    private final LogReader reader;
    private final Asks asks;
    private int finding;

    public InningsHouse() {
        sheets = new Sheet[MOST_SHEETS];
        for (int s = 0; s < MOST_SHEETS; s++) {
            sheets[s] = new Sheet();
        }
        // All twelve are made at once, so that no number below strikerCount can meet a null.
        strikers = new Striker[MOST_STRIKERS];
        for (int s = 0; s < MOST_STRIKERS; s++) {
            strikers[s] = new Striker();
        }
        strikerCount = 0;
        bases = new Bases();
        lineup = new Lineup(bases, strikers);
        match = new Match(bases, strikers);
        reader = new LogReader(bases);
        asks = new Asks();
        finding = 0;
    }

    // ---- sheets

    public int sheet(int sheet, int lane, int n) {
        if (!isSheet(sheet) || !within(lane, Sheet.BYTES, Sheet.INTS) || n > Sheet.MOST_ITEMS) {
            return BAD;
        }
        if (n < 0) {
            return found(SIZE);
        }
        sheets[sheet].begin(lane, n);
        return fine(n);
    }

    public int set(int sheet, int i, int v) {
        if (!isSheet(sheet)) {
            return BAD;
        }
        Sheet there = sheets[sheet];
        if (there.missing) {
            return found(NULL);
        }
        if (!there.holds(i, 1)) {
            return found(PLACE);
        }
        there.items[i] = there.cutToLane(v);
        return fine(there.items[i]);
    }

    public int copy(int a, int i, int b, int j, int n) {
        if (!isSheet(a) || !isSheet(b)) {
            return BAD;
        }
        Sheet from = sheets[a];
        Sheet to = sheets[b];
        if (from.missing || to.missing) {
            return found(NULL);
        }
        if (from.lane != to.lane) {
            return found(STORE);
        }
        if (!from.holds(i, n) || !to.holds(j, n)) {
            return found(PLACE);
        }
        System.arraycopy(from.items, i, to.items, j, n);
        return fine(n);
    }

    public int drop(int sheet) {
        if (!isSheet(sheet)) {
            return BAD;
        }
        Sheet there = sheets[sheet];
        if (there.missing) {
            return found(NULL);
        }
        there.missing = true;
        return fine(there.size);
    }

    // ---- standings, strikers

    public int behind(int standing, int act, int what) {
        if (!within(standing, 0, OVER - 1) || !within(act, OUT, CAUGHT) || !within(what, 0, 1)) {
            return BAD;
        }
        return what == 0 ? bases.standingAfter(standing, act) : bases.runsOf(standing, act);
    }

    public int striker(int walk, int single, int two, int three, int homer, int steals) {
        if (!isChance(walk) || !isChance(single) || !isChance(two) || !isChance(three)
                || !isChance(homer) || !isChance(steals)) {
            return BAD;
        }
        if (walk + single + two + three + homer > WHOLE) {
            return BAD;
        }
        if (strikerCount >= MOST_STRIKERS) {
            return FULL;
        }
        Striker made = strikers[strikerCount];
        made.chances[WALK] = walk;
        made.chances[SINGLE] = single;
        made.chances[DOUBLE] = two;
        made.chances[TRIPLE] = three;
        made.chances[HOMER] = homer;
        made.giveTheRestToOut();
        made.steals = steals;
        return admitted();
    }

    public int train(int striker, int act, int v) {
        if (!isStriker(striker) || !within(act, WALK, STEALS) || !isChance(v)) {
            return BAD;
        }
        Striker trained = strikers[striker];
        int before = trained.chanceOrSteals(act);
        if (act == STEALS) {
            trained.steals = v;
        } else if (v - before > trained.chances[OUT]) {
            return STATE;
        } else {
            trained.chances[act] = v;
            trained.giveTheRestToOut();
        }
        match.forget();
        return before;
    }

    public int chance(int striker, int act) {
        if (!isStriker(striker) || !within(act, OUT, STEALS)) {
            return BAD;
        }
        return strikers[striker].chanceOrSteals(act);
    }

    public int order(int sheet, int i, int n) {
        if (!isSheet(sheet) || !within(n, 1, MOST_PLACES)) {
            return BAD;
        }
        Sheet there = sheets[sheet];
        if (there.missing) {
            return found(NULL);
        }
        if (!there.holds(i, n)) {
            return found(PLACE);
        }
        for (int k = 0; k < n; k++) {
            if (!isStriker(there.items[i + k])) {
                return BAD;
            }
        }
        lineup.take(there.items, i, n);
        return fine(n);
    }

    public int striking(int place) {
        if (place == NONE) {
            return lineup.places;
        }
        return isPlace(place) ? lineup.row[place] : BAD;
    }

    // ---- runs to come

    public int mean(int standing, int place, int n) {
        if (!within(standing, 0, OVER) || !isPlace(place) || !within(n, 0, MOST_STRIKES)) {
            return BAD;
        }
        return lineup.meanFrom(standing, place, n);
    }

    public int likely(int standing, int place, int n, int r) {
        if (!within(standing, 0, OVER) || !isPlace(place) || !within(n, 0, MOST_STRIKES)
                || !within(r, 0, MOST_RUNS)) {
            return BAD;
        }
        return lineup.likelyFrom(standing, place, n, r);
    }

    public int worth(int standing, int act, int place, int n) {
        if (!within(standing, 0, OVER - 1) || !within(act, OUT, BUNT) || !isPlace(place)
                || !within(n, 1, MOST_STRIKES)) {
            return BAD;
        }
        return lineup.worthOf(standing, act, place, n);
    }

    public int rate() {
        if (lineup.places == 0) {
            return STATE;
        }
        return lineup.rateNow();
    }

    public int swapped() {
        if (lineup.places == 0) {
            return STATE;
        }
        return lineup.exchangeWhileBetter();
    }

    public int best() {
        if (lineup.places == 0 || lineup.places > MOST_PLACES_OF_BEST) {
            return STATE;
        }
        return lineup.becomeBest();
    }

    // ---- a game

    public int team(int team, int striker) {
        if (!within(team, 0, 1) || !isStriker(striker)) {
            return BAD;
        }
        int before = match.teams[team];
        match.teams[team] = striker;
        match.forget();
        return before;
    }

    public int game(int halves, int lead, int standing, int n, int what) {
        if (!within(halves, 0, MOST_HALVES) || !within(lead, -MOST_LEAD, MOST_LEAD) || !within(standing, 0, OVER)
                || !within(n, 0, MOST_STRIKES_OF_HALF) || !within(what, 0, 2)) {
            return BAD;
        }
        if (match.howManyTeams() < 2) {
            return STATE;
        }
        return match.told(halves, lead, standing, n, what);
    }

    // ---- logs

    public int log(int sheet, int i, int n, int what) {
        if (!isSheet(sheet) || !within(n, 1, MOST_ROWS) || !(within(what, 0, 3) || within(what, 10, 10 + CAUGHT))) {
            return BAD;
        }
        int missed = findingOfLog(sheet, i, n);
        if (missed != 0) {
            return found(missed);
        }
        reader.read(sheets[sheet].items, i, n);
        return fine(reader.told(what));
    }

    public int learn(int sheet, int i, int n, int steals) {
        if (!isSheet(sheet) || !within(n, 1, MOST_ROWS) || !isChance(steals)) {
            return BAD;
        }
        if (strikerCount >= MOST_STRIKERS) {
            return FULL;
        }
        int missed = findingOfLog(sheet, i, n);
        if (missed != 0) {
            return found(missed);
        }
        reader.read(sheets[sheet].items, i, n);
        int strikes = reader.howManyStrikes();
        if (strikes == 0) {
            return STATE;
        }
        Striker made = strikers[strikerCount];
        for (int act = WALK; act <= HOMER; act++) {
            made.chances[act] = reader.times[act] * WHOLE / strikes;
        }
        made.giveTheRestToOut();
        made.steals = steals;
        return fine(admitted());
    }

    // ---- asked

    public int kind(int striker) {
        return isStriker(striker) ? strikers[striker].toldKind() : BAD;
    }

    public int as(int striker, int kind) {
        if (!isStriker(striker) || !within(kind, PLAIN, QUICK)) {
            return BAD;
        }
        if (!strikers[striker].isOne(kind)) {
            return found(KIND);
        }
        return fine(strikers[striker].chances[OUT]);
    }

    public int ask(int striker, int what) {
        if (!isStriker(striker) || !within(what, 0, 1)) {
            return BAD;
        }
        asks.left = 0;
        return what == 0 ? asks.sizeOf(strikers[striker], 0) : asks.markOf(strikers[striker], 0);
    }

    public int trace(int i) {
        return within(i, 0, asks.left - 1) ? asks.numbers[i] : NONE;
    }

    public int count(int what) {
        switch (what) {
            case 0:
                return howManySheets();
            case 1:
                return strikerCount;
            case 2:
                return howManyStrikers(SAFE);
            case 3:
                return howManyStrikers(STRONG);
            case 4:
                return howManyStrikers(QUICK);
            case 5:
                return lineup.places;
            case 6:
                return match.howManyTeams();
            default:
                return BAD;
        }
    }

    public int status() {
        return finding;
    }

    // ---- what the calls share

    private static boolean within(int v, int least, int most) {
        return v >= least && v <= most;
    }

    private static boolean isSheet(int sheet) {
        return within(sheet, 0, MOST_SHEETS - 1);
    }

    private static boolean isChance(int v) {
        return within(v, 0, WHOLE);
    }

    private boolean isStriker(int striker) {
        return within(striker, 0, strikerCount - 1);
    }

    private boolean isPlace(int place) {
        return within(place, 0, lineup.places - 1);
    }

    private int found(int number) {
        finding = number;
        return FINDINGS - number;
    }

    private int fine(int answer) {
        finding = 0;
        return answer;
    }

    private int admitted() {
        int number = strikerCount;
        strikerCount++;
        return number;
    }

    private int findingOfLog(int sheet, int i, int n) {
        Sheet there = sheets[sheet];
        if (there.missing) {
            return NULL;
        }
        return there.holds(i, n * ITEMS_OF_ROW) ? 0 : PLACE;
    }

    private int howManySheets() {
        int many = 0;
        for (int s = 0; s < MOST_SHEETS; s++) {
            if (!sheets[s].missing) {
                many++;
            }
        }
        return many;
    }

    private int howManyStrikers(int kind) {
        int many = 0;
        for (int s = 0; s < strikerCount; s++) {
            if (strikers[s].isOne(kind)) {
                many++;
            }
        }
        return many;
    }

    /** One row for all of its life: a new SHEET in its place makes no new array. */
    private static final class Sheet {
        static final int BYTES = 0, SHORTS = 1, INTS = 2, MOST_ITEMS = 60;

        final int[] items = new int[MOST_ITEMS];
        boolean missing = true;
        int lane;
        int size;

        void begin(int itsLane, int n) {
            missing = false;
            lane = itsLane;
            size = n;
            Arrays.fill(items, 0);
        }

        /** The end is told by a difference, as a sum could wrap around. */
        boolean holds(int from, int n) {
            return from >= 0 && n >= 0 && from <= size - n;
        }

        int cutToLane(int v) {
            if (lane == BYTES) {
                return (byte) v;
            }
            return lane == SHORTS ? (short) v : v;
        }
    }

    private static final class Striker {
        private static final int SAFE_OUT = 650, STRONG_HITS = 60, QUICK_STEALS = 700;

        final int[] chances = new int[HOMER + 1];
        int steals;

        void giveTheRestToOut() {
            int rest = WHOLE;
            for (int act = WALK; act <= HOMER; act++) {
                rest -= chances[act];
            }
            chances[OUT] = rest;
        }

        int chanceOrSteals(int act) {
            return act == STEALS ? steals : chances[act];
        }

        int toldKind() {
            if (chances[OUT] <= SAFE_OUT) {
                return chances[TRIPLE] + chances[HOMER] >= STRONG_HITS ? STRONG : SAFE;
            }
            return steals >= QUICK_STEALS ? QUICK : PLAIN;
        }

        boolean isOne(int kind) {
            int told = toldKind();
            return kind == PLAIN || kind == told || kind == SAFE && told == STRONG;
        }
    }

    /** What each ACT makes of each STANDING; told once for all, as every reckoning asks it over and over. */
    private static final class Bases {
        private static final int FIRST = 1, SECOND = 2, THIRD = 4, MEN = 7, OUTS = 3;

        final int[] standings = new int[OVER * ACTS];
        final int[] runs = new int[OVER * ACTS];

        Bases() {
            for (int standing = 0; standing < OVER; standing++) {
                for (int act = OUT; act <= CAUGHT; act++) {
                    tell(standing, act);
                }
            }
        }

        int standingAfter(int standing, int act) {
            return standings[standing * ACTS + act];
        }

        int runsOf(int standing, int act) {
            return runs[standing * ACTS + act];
        }

        static boolean someoneIsOn(int standing) {
            return (standing & MEN) != 0;
        }

        static boolean canSteal(int standing) {
            return (standing & (FIRST | SECOND)) == FIRST;
        }

        private void tell(int standing, int act) {
            int at = standing * ACTS + act;
            int men = standing & MEN;
            int outs = (standing >> 3) + (act == OUT || act == BUNT || act == CAUGHT ? 1 : 0);
            if (act >= STEAL && !canSteal(standing)) {
                standings[at] = NONE;
                runs[at] = NONE;
            } else if (outs >= OUTS) {
                standings[at] = OVER;
                runs[at] = 0;
            } else {
                standings[at] = outs * (MEN + 1) + menAfter(men, act);
                runs[at] = menHome(men, act);
            }
        }

        private static int menAfter(int men, int act) {
            switch (act) {
                case WALK:
                    return menAfterWalk(men);
                case SINGLE:
                    return (men << 1) & MEN | FIRST;
                case DOUBLE:
                    return (men & FIRST) != 0 ? THIRD | SECOND : SECOND;
                case TRIPLE:
                    return THIRD;
                case HOMER:
                    return 0;
                case BUNT:
                    return (men << 1) & MEN;
                case STEAL:
                    return men & THIRD | SECOND;
                case CAUGHT:
                    return men & THIRD;
                default:
                    return men;
            }
        }

        /** Each man is driven into the nearest free base, so that base is the one that fills. */
        private static int menAfterWalk(int men) {
            if ((men & FIRST) == 0) {
                return men | FIRST;
            }
            return (men & SECOND) == 0 ? men | SECOND : men | THIRD;
        }

        private static int menHome(int men, int act) {
            switch (act) {
                case WALK:
                    return men == MEN ? 1 : 0;
                case SINGLE:
                case BUNT:
                    return Integer.bitCount(men & THIRD);
                case DOUBLE:
                    return Integer.bitCount(men & (SECOND | THIRD));
                case TRIPLE:
                    return Integer.bitCount(men);
                case HOMER:
                    return Integer.bitCount(men) + 1;
                default:
                    return 0;
            }
        }
    }

    /** THE ORDER, and what is to come of it, reckoned from the last strike back. */
    private static final class Lineup {
        private static final int STANDINGS = OVER + 1, RUN_NUMBERS = MOST_RUNS + 1;
        private static final int MOST_EXCHANGES = 40, ORDERS_OF_SIX = 720;

        private final Bases bases;
        private final Striker[] strikers;
        final int[] row = new int[MOST_PLACES];
        int places;
        private final int[] kept = new int[MOST_PLACES];
        private long[] means = new long[STANDINGS];
        private long[] meansBehind = new long[STANDINGS];
        private int[] likelies = new int[STANDINGS * RUN_NUMBERS];
        private int[] likeliesBehind = new int[STANDINGS * RUN_NUMBERS];

        Lineup(Bases itsBases, Striker[] itsStrikers) {
            bases = itsBases;
            strikers = itsStrikers;
        }

        void take(int[] items, int from, int n) {
            System.arraycopy(items, from, row, 0, n);
            places = n;
        }

        int meanFrom(int standing, int place, int n) {
            fillMeans(place, n);
            return (int) means[standing];
        }

        int worthOf(int standing, int act, int place, int n) {
            fillMeans(place, n);
            long after = meansBehind[bases.standingAfter(standing, act)];
            return (int) (bases.runsOf(standing, act) * (long) MILLION + after - means[standing]);
        }

        int rateNow() {
            return meanFrom(0, 0, MOST_STRIKES) + meanFrom(0, places / 2, MOST_STRIKES);
        }

        /** Leaves MEAN of n strikes from the place in means, that of one less from the next in meansBehind. */
        private void fillMeans(int place, int n) {
            Arrays.fill(means, 0L);
            Arrays.fill(meansBehind, 0L);
            for (int left = 1; left <= n; left++) {
                long[] spare = meansBehind;
                meansBehind = means;
                means = spare;
                fillMeansOf(chancesAt(place + n - left));
            }
        }

        /** The dearest loop of all (best() goes through it 20000 times): it reads the tables themselves. */
        private void fillMeansOf(int[] chances) {
            long[] from = meansBehind;
            int[] standings = bases.standings;
            int[] runs = bases.runs;
            for (int standing = 0; standing < OVER; standing++) {
                long sum = 0;
                int at = standing * ACTS;
                for (int act = OUT; act <= HOMER; act++) {
                    int c = chances[act];
                    if (c > 0) {
                        sum += c * (runs[at] * (long) MILLION + from[standings[at]]);
                    }
                    at++;
                }
                means[standing] = sum / WHOLE;
            }
        }

        private int[] chancesAt(int strike) {
            return strikers[row[places > 0 ? strike % places : 0]].chances;
        }

        /**
         * Just r RUNS and r RUNS or more begin alike and go on alike;
         * they differ only in what fewer RUNS than none are worth.
         */
        int likelyFrom(int standing, int place, int n, int r) {
            int fewerThanNone = r == MOST_RUNS ? MILLION : 0;
            beginLikelies(likelies);
            beginLikelies(likeliesBehind);
            for (int left = 1; left <= n; left++) {
                int[] spare = likeliesBehind;
                likeliesBehind = likelies;
                likelies = spare;
                fillLikeliesOf(chancesAt(place + n - left), r, fewerThanNone);
            }
            return likelies[standing * RUN_NUMBERS + r];
        }

        private static void beginLikelies(int[] table) {
            Arrays.fill(table, 0);
            for (int standing = 0; standing < STANDINGS; standing++) {
                table[standing * RUN_NUMBERS] = MILLION;
            }
        }

        private void fillLikeliesOf(int[] chances, int most, int fewerThanNone) {
            for (int standing = 0; standing < OVER; standing++) {
                for (int r = 0; r <= most; r++) {
                    long sum = 0;
                    for (int act = OUT; act <= HOMER; act++) {
                        int rest = r - bases.runsOf(standing, act);
                        int at = bases.standingAfter(standing, act) * RUN_NUMBERS + rest;
                        sum += (long) chances[act] * (rest < 0 ? fewerThanNone : likeliesBehind[at]);
                    }
                    likelies[standing * RUN_NUMBERS + r] = (int) (sum / WHOLE);
                }
            }
        }

        int exchangeWhileBetter() {
            int many = 0;
            while (many < MOST_EXCHANGES && exchangeFirstBetter()) {
                many++;
            }
            return many;
        }

        private boolean exchangeFirstBetter() {
            int before = rateNow();
            for (int a = 0; a < places - 1; a++) {
                for (int b = a + 1; b < places; b++) {
                    if (row[a] == row[b]) {
                        continue;
                    }
                    exchange(a, b);
                    if (rateNow() > before) {
                        return true;
                    }
                    exchange(a, b);
                }
            }
            return false;
        }

        private void exchange(int a, int b) {
            int moved = row[a];
            row[a] = row[b];
            row[b] = moved;
        }

        /** Goes through the orders as rows of numbers, so that the first of several is met first. */
        int becomeBest() {
            sortRow();
            int most = -1;
            for (int turn = 0; turn < ORDERS_OF_SIX; turn++) {
                if (!halvesWereMetExchanged()) {
                    int here = rateNow();
                    if (here > most) {
                        most = here;
                        System.arraycopy(row, 0, kept, 0, places);
                    }
                }
                if (!nextRow()) {
                    break;
                }
            }
            System.arraycopy(kept, 0, row, 0, places);
            return most;
        }

        /** Of an even row the same with its halves exchanged has the same RATE, and was met if it is the first. */
        private boolean halvesWereMetExchanged() {
            int half = places / 2;
            if (half * 2 != places) {
                return false;
            }
            for (int a = 0; a < half; a++) {
                if (row[a] != row[a + half]) {
                    return row[a + half] < row[a];
                }
            }
            return false;
        }

        private void sortRow() {
            for (int a = 0; a < places - 1; a++) {
                for (int b = a + 1; b < places; b++) {
                    if (row[b] < row[a]) {
                        exchange(a, b);
                    }
                }
            }
        }

        /** The next row of the same numbers that is above this one; false: this is the last. */
        private boolean nextRow() {
            int a = places - 2;
            while (a >= 0 && row[a] >= row[a + 1]) {
                a--;
            }
            if (a < 0) {
                return false;
            }
            int b = places - 1;
            while (b > a && row[b] <= row[a]) {
                b--;
            }
            exchange(a, b);
            int low = a + 1;
            int high = places - 1;
            while (low < high) {
                exchange(low, high);
                low++;
                high--;
            }
            return true;
        }
    }

    /** A GAME: of each half only the strikes at hand are held, and WIN where the halves begin. */
    private static final class Match {
        private static final int STANDINGS = OVER + 1, LEADS = 2 * MOST_LEAD + 1;
        private static final int STRIKE_IT = 0, BUNT_IT = 1, STEAL_IT = 2;

        private final Bases bases;
        private final Striker[] strikers;
        final int[] teams = {NONE, NONE};
        /** WIN by HALVES left and LEAD at STANDING 0 with all strikes; told up to knownHalves. */
        private final int[] starts = new int[(MOST_HALVES + 1) * LEADS];
        private int knownHalves;
        private int[] wins = new int[LEADS * STANDINGS];
        private int[] winsBehind = new int[LEADS * STANDINGS];
        private int strikingTeam;

        Match(Bases itsBases, Striker[] itsStrikers) {
            bases = itsBases;
            strikers = itsStrikers;
            for (int lead = 0; lead < LEADS; lead++) {
                starts[lead] = lead > MOST_LEAD ? MILLION : lead == MOST_LEAD ? MILLION / 2 : 0;
            }
            knownHalves = 0;
        }

        void forget() {
            knownHalves = 0;
        }

        int howManyTeams() {
            return (teams[0] == NONE ? 0 : 1) + (teams[1] == NONE ? 0 : 1);
        }

        int told(int halves, int leadOfZero, int standing, int n, int what) {
            int lead = leadOfZero + MOST_LEAD;
            boolean noChoice = halves == 0 || standing == OVER || n == 0;
            if (noChoice && what != 0) {
                return what == 1 ? NONE : 0;
            }
            int halvesBehind = Math.max(halves - 1, 0);
            learnStarts(halvesBehind);
            if (noChoice) {
                return starts[halvesBehind * LEADS + lead];
            }
            fillHalf(halves, n);
            if (what == 0) {
                return wins[lead * STANDINGS + standing];
            }
            return what == 1 ? choiceAt(lead, standing) : walkIsBetter(lead, standing);
        }

        private void learnStarts(int halves) {
            for (int half = knownHalves + 1; half <= halves; half++) {
                fillHalf(half, MOST_STRIKES_OF_HALF);
                for (int lead = 0; lead < LEADS; lead++) {
                    starts[half * LEADS + lead] = wins[lead * STANDINGS];
                }
                knownHalves = half;
            }
        }

        /** Leaves WIN with n strikes left in wins, with one less in winsBehind. */
        private void fillHalf(int halves, int n) {
            strikingTeam = halves % 2;
            beginHalf(wins, halves - 1);
            beginHalf(winsBehind, halves - 1);
            for (int left = 1; left <= n; left++) {
                int[] spare = winsBehind;
                winsBehind = wins;
                wins = spare;
                for (int lead = 0; lead < LEADS; lead++) {
                    for (int standing = 0; standing < OVER; standing++) {
                        wins[lead * STANDINGS + standing] = winByBest(lead, standing);
                    }
                }
            }
        }

        private void beginHalf(int[] table, int halvesBehind) {
            for (int lead = 0; lead < LEADS; lead++) {
                int win = starts[halvesBehind * LEADS + lead];
                for (int standing = 0; standing < STANDINGS; standing++) {
                    table[lead * STANDINGS + standing] = win;
                }
            }
        }

        private int winByBest(int lead, int standing) {
            int win = winByStrike(lead, standing);
            if (Bases.someoneIsOn(standing)) {
                win = betterOf(win, winAfter(lead, standing, BUNT));
            }
            if (Bases.canSteal(standing)) {
                win = betterOf(win, winBySteal(lead, standing));
            }
            return win;
        }

        private int betterOf(int win, int other) {
            return strikingTeam == 0 ? Math.max(win, other) : Math.min(win, other);
        }

        /** The first of the choices that give WIN. */
        private int choiceAt(int lead, int standing) {
            int win = wins[lead * STANDINGS + standing];
            if (winByStrike(lead, standing) == win) {
                return STRIKE_IT;
            }
            boolean byBunt = Bases.someoneIsOn(standing) && winAfter(lead, standing, BUNT) == win;
            return byBunt ? BUNT_IT : STEAL_IT;
        }

        private int walkIsBetter(int lead, int standing) {
            int win = wins[lead * STANDINGS + standing];
            int walked = winAfter(lead, standing, WALK);
            boolean better = strikingTeam == 0 ? walked < win : walked > win;
            return better ? 1 : 0;
        }

        private int winByStrike(int lead, int standing) {
            int[] chances = strikers[teams[strikingTeam]].chances;
            int sum = 0;
            for (int act = OUT; act <= HOMER; act++) {
                if (chances[act] > 0) {
                    sum += chances[act] * winAfter(lead, standing, act);
                }
            }
            return sum / WHOLE;
        }

        private int winBySteal(int lead, int standing) {
            int steals = strikers[teams[strikingTeam]].steals;
            int sum = steals * winAfter(lead, standing, STEAL) + (WHOLE - steals) * winAfter(lead, standing, CAUGHT);
            return sum / WHOLE;
        }

        private int winAfter(int lead, int standing, int act) {
            int at = standing * ACTS + act;
            int leadAfter = strikingTeam == 0 ? lead + bases.runs[at] : lead - bases.runs[at];
            if (leadAfter < 0) {
                leadAfter = 0;
            } else if (leadAfter >= LEADS) {
                leadAfter = LEADS - 1;
            }
            return winsBehind[leadAfter * STANDINGS + bases.standings[at]];
        }
    }

    /** What a LOG tells up to its CLASH. */
    private static final class LogReader {
        private final Bases bases;
        final int[] times = new int[ACTS];
        private int clash;
        private int runs;
        private int halves;
        private int standing;

        LogReader(Bases itsBases) {
            bases = itsBases;
        }

        void read(int[] items, int from, int rows) {
            Arrays.fill(times, 0);
            clash = NONE;
            runs = 0;
            halves = 0;
            standing = 0;
            for (int row = 0; row < rows && clash == NONE; row++) {
                int at = from + row * ITEMS_OF_ROW;
                if (!fits(items[at], items[at + 1], items[at + 2])) {
                    clash = row;
                }
            }
        }

        /** Counts the row in, unless it can't be. */
        private boolean fits(int act, int after, int home) {
            // The half that is over stays told as 24 till a row that fits begins the next.
            int here = standing == OVER ? 0 : standing;
            if (!within(act, OUT, CAUGHT) || bases.standingAfter(here, act) == NONE
                    || bases.standingAfter(here, act) != after || bases.runsOf(here, act) != home) {
                return false;
            }
            times[act]++;
            runs += home;
            standing = after;
            if (after == OVER) {
                halves++;
            }
            return true;
        }

        int howManyStrikes() {
            int many = 0;
            for (int act = OUT; act <= HOMER; act++) {
                many += times[act];
            }
            return many;
        }

        int told(int what) {
            switch (what) {
                case 0:
                    return clash;
                case 1:
                    return runs;
                case 2:
                    return halves;
                case 3:
                    return standing;
                default:
                    return within(what, 10, 10 + CAUGHT) ? times[what - 10] : BAD;
            }
        }
    }

    /** The BODIES of SIZE and MARK, and THE TRACE that they leave. */
    private static final class Asks {
        private static final int MOST_TRACED = 16;
        /** SIZE and MARK ask one another at most once in an ask; this stands above that. */
        private static final int DEEPEST = 4;

        final int[] numbers = new int[MOST_TRACED];
        int left;

        private int sizeOf(Striker striker, int depth) {
            if (depth > DEEPEST) {
                return 0;
            }
            switch (striker.toldKind()) {
                case STRONG:
                    return sizeOfStrong(striker);
                case SAFE:
                    return sizeOfSafe(striker);
                case QUICK:
                    return sizeOfQuick(striker, depth);
                default:
                    return sizeLent(striker);
            }
        }

        private int markOf(Striker striker, int depth) {
            if (depth > DEEPEST) {
                return 0;
            }
            switch (striker.toldKind()) {
                case STRONG:
                    return markOfStrong(striker, depth);
                case SAFE:
                    return markOfSafe(striker);
                case QUICK:
                    return markOfQuick(striker);
                default:
                    return markLent(striker);
            }
        }

        private int sizeLent(Striker striker) {
            leave(10);
            return striker.steals;
        }

        private int sizeOfSafe(Striker striker) {
            leave(11);
            return sizeLent(striker) + WHOLE - striker.chances[OUT];
        }

        private int sizeOfStrong(Striker striker) {
            leave(12);
            return sizeOfSafe(striker) * 2;
        }

        private int sizeOfQuick(Striker striker, int depth) {
            leave(13);
            int lent = sizeLent(striker);
            return lent - markOf(striker, depth + 1);
        }

        private int markLent(Striker striker) {
            leave(20);
            return striker.chances[HOMER];
        }

        private int markOfSafe(Striker striker) {
            leave(21);
            return markLent(striker) + 100;
        }

        private int markOfStrong(Striker striker, int depth) {
            leave(22);
            int ofSafe = markOfSafe(striker);
            return ofSafe + sizeOf(striker, depth + 1);
        }

        private int markOfQuick(Striker striker) {
            leave(23);
            return markLent(striker) / 2;
        }

        private void leave(int number) {
            if (left < MOST_TRACED) {
                numbers[left] = number;
                left++;
            }
        }
    }
}
