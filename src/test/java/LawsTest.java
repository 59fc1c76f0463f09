/**
 * The document's sentences as laws that bind all answers at once: each answer follows from those one strike on, asked
 * of the class itself. No number here is by hand; a table is asked whole, by objects of at most 512 calls each.
 */
public final class LawsTest extends Dues {
    private static final int MILLION = 1000000;
    /** Chances of walk, single, double, triple, homer, and STEALS. */
    private static final int[][] MEN = {
        {100, 150, 50, 10, 30, 500}, {50, 250, 80, 20, 60, 900}, {0, 333, 0, 0, 7, 720}, {301, 1, 2, 0, 3, 0},
        {0, 0, 0, 0, 0, 1000}, {90, 143, 47, 5, 28, 655}};
    private static final int[] ORDER = {3, 0, 2, 1, 5};

    /** ACT by ACT what the document says, as the class tells it by behind() and chance(). */
    private static final int[][] AFTER = new int[24][9];
    private static final int[][] RUNS = new int[24][9];

    public static void main(String[] args) {
        numbers();
        chances();
        standings();
        mean();
        likely();
        worth();
        rate();
        game(0, 1, 5);
        game(2, 5, 2);
        game(4, 3, 2);
        log();
        ask();
        status();
        end();
    }

    private static InningsHouse withMen() {
        InningsHouse x = new InningsHouse();
        for (int[] m : MEN) {
            x.striker(m[0], m[1], m[2], m[3], m[4], m[5]);
        }
        return x;
    }

    private static InningsHouse withOrder() {
        InningsHouse x = withMen();
        orderOf(x, ORDER);
        return x;
    }

    private static int chanceOf(int striker, int act) {
        int[] m = MEN[striker];
        return act == 0 ? 1000 - m[0] - m[1] - m[2] - m[3] - m[4] : m[act - 1];
    }

    private static void numbers() {
        promise("7 striker");
        says("Numbers go from 0 on.");
        InningsHouse x = new InningsHouse();
        for (int s = 0; s < 12; s++) {
            answers(s, x, "striker", s, 0, 0, 0, 0, 0);
            answers(s, x, "chance", s, 1);
        }
        answers(FULL, x, "striker", 0, 0, 0, 0, 0, 0);
    }

    private static void chances() {
        promise("8 train");
        says("CHANCES of ACTS 0 to 5, by 1000 together, and STEALS (0 to 1000: of a try to steal by 1000).");
        InningsHouse x = withMen();
        write(x, 0, 1, 1, 0, 1, 3, 0, 2, 7, 0);
        answers(MEN.length, x, "learn", 0, 0, 3, 1000);
        for (int s = 0; s <= MEN.length; s++) {
            for (int act = 1; act <= 6; act++) {
                x.train(s, act, act * 31);
                int all = 0;
                for (int each = 0; each <= 5; each++) {
                    all += x.chance(s, each);
                }
                due("CHANCES of STRIKER " + s + " together", all, 1000);
                answers(act == 6 ? 186 : s == MEN.length ? 1000 : MEN[s][5], x, "chance", s, 6);
            }
        }
    }

    private static int men(int standing) {
        return Integer.bitCount(standing & 7);
    }

    /** Whoever was there or came to strike is on a base, out, or home, unless the half is over. */
    private static void standings() {
        promise("6 behind");
        says("A STANDING: men on bases 1, 2, 3 (bits 0, 1, 2) and 8 times how many are out (0 to 2): 0 to 23");
        says("RUNS: how many come home.");
        InningsHouse x = new InningsHouse();
        for (int standing = 0; standing < 24; standing++) {
            for (int act = 0; act <= 8; act++) {
                int after = x.behind(standing, act, 0);
                int home = x.behind(standing, act, 1);
                AFTER[standing][act] = after;
                RUNS[standing][act] = home;
                String call = "behind(" + standing + ", " + act + ", ..)";
                boolean canBe = act < 7 || (standing & 3) == 1;
                int outs = standing / 8 + (act == 0 || act == 6 || act == 8 ? 1 : 0);
                if (!canBe || outs == 3) {
                    due(call, after, canBe ? 24 : NONE);
                    due(call + " RUNS", home, canBe ? 0 : NONE);
                } else {
                    due(call + " outs", after / 8, outs);
                    due(call + " everybody", men(after) + outs + home, men(standing) + standing / 8 + (act < 7 ? 1 : 0));
                }
            }
        }
    }

    private static int[][][] allMeans() {
        int[][][] means = new int[31][ORDER.length][25];
        for (int n = 0; n <= 30; n++) {
            InningsHouse x = withOrder();
            for (int place = 0; place < ORDER.length; place++) {
                for (int standing = 0; standing <= 24; standing++) {
                    means[n][place][standing] = x.mean(standing, place, n);
                }
            }
        }
        return means;
    }

    private static void mean() {
        promise("12 mean");
        says("else for each ACT 0 to 5 of that STRIKER with CHANCE c above 0: c times (RUNS times 1000000, and MEAN of "
            + "the STANDING behind it, the next place, n - 1), all added, by 1000.");
        int[][][] means = allMeans();
        for (int n = 0; n <= 30; n++) {
            for (int place = 0; place < ORDER.length; place++) {
                for (int standing = 0; standing <= 24; standing++) {
                    long sum = 0;
                    for (int act = 0; act <= 5 && n > 0 && standing < 24; act++) {
                        int behind = means[n - 1][(place + 1) % ORDER.length][AFTER[standing][act]];
                        sum += chanceOf(ORDER[place], act) * ((long) RUNS[standing][act] * MILLION + behind);
                    }
                    due(told("mean", standing, place, n), means[n][place][standing], (int) (sum / 1000));
                }
            }
        }
    }

    private static void likely() {
        promise("13 likely");
        says("else for each ACT c times LIKELY of r less RUNS behind it (0 for fewer than none), all added, by 1000.");
        for (int place = 0; place < ORDER.length; place += 2) {
            int next = (place + 1) % ORDER.length;
            for (int n = 1; n <= 30; n += n < 4 ? 1 : 13) {
                int[][] here = allLikelies(place, n);
                int[][] behind = allLikelies(next, n - 1);
                for (int standing = 0; standing < 24; standing++) {
                    for (int r = 0; r <= 8; r++) {
                        long sum = 0;
                        for (int act = 0; act <= 5; act++) {
                            int rest = r - RUNS[standing][act];
                            sum += (long) chanceOf(ORDER[place], act) * (rest < 0 ? 0 : behind[AFTER[standing][act]][rest]);
                        }
                        due(told("likely", standing, place, n, r), here[standing][r], (int) (sum / 1000));
                    }
                }
                togetherNearlyAll(here, n);
            }
        }
    }

    private static int[][] allLikelies(int place, int n) {
        InningsHouse x = withOrder();
        int[][] likelies = new int[25][10];
        for (int standing = 0; standing <= 24; standing++) {
            for (int r = 0; r <= 9; r++) {
                likelies[standing][r] = x.likely(standing, place, n, r);
            }
        }
        return likelies;
    }

    /** 0 to 8 RUNS and 9 or more are all there is; each strike cuts less than one from each of the ten. */
    private static void togetherNearlyAll(int[][] likelies, int n) {
        for (int[] ofStanding : likelies) {
            int all = 0;
            for (int each : ofStanding) {
                all += each;
            }
            if (all > MILLION || all < MILLION - 10 * n) {
                fault("LIKELY of all RUNS of " + n + " strikes is " + all);
            }
        }
    }

    private static void worth() {
        promise("14 worth");
        says("RUNS times 1000000, and MEAN behind it (next place, n - 1), less MEAN (n).");
        int[][][] means = allMeans();
        for (int n = 1; n <= 30; n++) {
            InningsHouse x = withOrder();
            int place = n % ORDER.length;
            for (int standing = 0; standing < 24; standing++) {
                for (int act = 0; act <= 6; act++) {
                    int behind = means[n - 1][(place + 1) % ORDER.length][AFTER[standing][act]];
                    answers(RUNS[standing][act] * MILLION + behind - means[n][place][standing],
                        x, "worth", standing, act, place, n);
                }
            }
        }
    }

    /** What swapped() leaves is held against every pair. */
    private static void rate() {
        promise("15 rate");
        says("THE ORDER's RATE: MEAN of STANDING 0 from place 0 with n 30, and from the place k half of THE ORDER");
        for (int places = 1; places <= 9; places++) {
            InningsHouse x = withMen();
            int[] row = new int[places];
            for (int p = 0; p < places; p++) {
                row[p] = (p * 5 + places) % MEN.length;
            }
            orderOf(x, row);
            due("rate()", x.rate(), x.mean(0, 0, 30) + x.mean(0, places / 2, 30));
            promise("16 swapped");
            says("over and over till there is none, or 40 were.");
            int before = x.rate();
            int swaps = x.swapped();
            if (swaps == 0 ? x.rate() != before : x.rate() <= before) {
                fault(swaps + " swaps led from RATE " + before + " to " + x.rate());
            }
            if (swaps < 40) {
                answers(0, x, "swapped");
            }
            noPairIsBetter(x, places);
        }
    }

    private static void noPairIsBetter(InningsHouse x, int places) {
        int[] row = new int[places];
        for (int p = 0; p < places; p++) {
            row[p] = x.striking(p);
        }
        int most = x.rate();
        for (int a = 0; a < places; a++) {
            for (int b = a + 1; b < places; b++) {
                int[] other = row.clone();
                other[a] = row[b];
                other[b] = row[a];
                InningsHouse y = withMen();
                orderOf(y, other);
                if (y.rate() > most) {
                    fault("places " + a + " and " + b + " exchanged make RATE " + y.rate() + ", swapped() left " + most);
                }
            }
        }
    }

    private static InningsHouse withTeams(int zero, int one) {
        InningsHouse x = withMen();
        x.team(0, zero);
        x.team(1, one);
        return x;
    }

    /** By STANDING and LEAD (9 added): a whole table of one HALF and one number of strikes. */
    private static int[][] allGames(int zero, int one, int halves, int n, int what) {
        InningsHouse x = withTeams(zero, one);
        int[][] games = new int[25][19];
        for (int standing = 0; standing <= 24; standing++) {
            for (int lead = -9; lead <= 9; lead++) {
                games[standing][lead + 9] = x.game(halves, lead, standing, n, what);
            }
        }
        return games;
    }

    private static void game(int zero, int one, int mostHalves) {
        promise("19 game");
        says("WIN (what = 0), the CHOICE (1; NONE: the half is over, or none is left), whether the other TEAM would WALK "
            + "HIM (2: 1, 0; 0 where there is no CHOICE).");
        int[][] ended = allGames(zero, one, 0, 12, 0);
        for (int standing = 0; standing <= 24; standing++) {
            for (int lead = -9; lead <= 9; lead++) {
                due("WIN at the end", ended[standing][lead + 9], lead > 0 ? MILLION : lead == 0 ? MILLION / 2 : 0);
            }
        }
        for (int halves = 1; halves <= mostHalves; halves++) {
            int[] atNextHalf = ended[0];
            int[][] behind = null;
            for (int n = 0; n <= 12; n++) {
                int[][] wins = allGames(zero, one, halves, n, 0);
                Half half = new Half(halves % 2 == 0 ? zero : one, halves, n);
                winsFollow(half, behind, atNextHalf, wins);
                // WIN alone takes long enough to ask for each number of strikes.
                if (n < 3 || n % 6 == 0) {
                    choicesFollow(half, behind, allGames(zero, one, halves, n, 1));
                    walksFollow(half, behind, wins, allGames(zero, one, halves, n, 2));
                }
                behind = wins;
            }
            ended = behind;
        }
    }

    private record Half(int striker, int halves, int n) {
        /** TEAM 0 is for more, TEAM 1 for less. */
        int sign() {
            return halves % 2 == 0 ? 1 : -1;
        }

        boolean isOver(int standing) {
            return standing == 24 || n == 0;
        }

        String told(int standing, int lead) {
            return "game(" + halves + ", " + lead + ", " + standing + ", " + n + ", ..) of STRIKER " + striker;
        }
    }

    private static void winsFollow(Half half, int[][] behind, int[] next, int[][] wins) {
        for (int standing = 0; standing <= 24; standing++) {
            for (int lead = -9; lead <= 9; lead++) {
                int want = next[lead + 9];
                if (!half.isOver(standing)) {
                    int[] by = byChoice(half, behind, standing, lead);
                    want = by[bestOf(by, half.sign())];
                }
                due(half.told(standing, lead) + " WIN", wins[standing][lead + 9], want);
            }
        }
    }

    private static void choicesFollow(Half half, int[][] behind, int[][] choices) {
        for (int standing = 0; standing <= 24; standing++) {
            for (int lead = -9; lead <= 9; lead++) {
                int want = half.isOver(standing) ? NONE : bestOf(byChoice(half, behind, standing, lead), half.sign());
                due(half.told(standing, lead) + " CHOICE", choices[standing][lead + 9], want);
            }
        }
    }

    private static void walksFollow(Half half, int[][] behind, int[][] wins, int[][] walks) {
        for (int standing = 0; standing <= 24; standing++) {
            for (int lead = -9; lead <= 9; lead++) {
                int sign = half.sign();
                boolean would = !half.isOver(standing)
                    && sign * winBehind(behind, standing, lead, 1, sign) < sign * wins[standing][lead + 9];
                due(half.told(standing, lead) + " WALK HIM", walks[standing][lead + 9], would ? 1 : 0);
            }
        }
    }

    private static int bestOf(int[] by, int sign) {
        int best = 0;
        for (int choice = 1; choice <= 2; choice++) {
            best = by[choice] != NONE && sign * by[choice] > sign * by[best] ? choice : best;
        }
        return best;
    }

    private static int[] byChoice(Half half, int[][] behind, int standing, int lead) {
        int sign = half.sign();
        long strike = 0;
        for (int act = 0; act <= 5; act++) {
            strike += (long) chanceOf(half.striker, act) * winBehind(behind, standing, lead, act, sign);
        }
        int[] by = {(int) (strike / 1000), NONE, NONE};
        if (standing % 8 != 0) {
            by[1] = winBehind(behind, standing, lead, 6, sign);
        }
        if (AFTER[standing][7] != NONE) {
            long steals = MEN[half.striker][5];
            by[2] = (int) ((steals * winBehind(behind, standing, lead, 7, sign)
                + (1000 - steals) * winBehind(behind, standing, lead, 8, sign)) / 1000);
        }
        return by;
    }

    private static int winBehind(int[][] behind, int standing, int lead, int act, int sign) {
        int after = Math.max(-9, Math.min(9, lead + sign * RUNS[standing][act]));
        return behind[AFTER[standing][act]][after + 9];
    }

    /** Every ACT that can be in every STANDING, as the row that a LOG of ways there ends with. */
    private static void log() {
        promise("20 log");
        says("1 RUNS, 2 halves that are over, 3 the STANDING behind all, 10 to 18 how often ACT 0 to 8.");
        for (int standing = 0; standing < 24; standing++) {
            for (int act = 0; act <= 8; act++) {
                InningsHouse x = new InningsHouse();
                int rows = wayTo(x, standing);
                boolean canBe = AFTER[standing][act] != NONE;
                x.set(0, rows * 3, act);
                x.set(0, rows * 3 + 1, AFTER[standing][act]);
                x.set(0, rows * 3 + 2, RUNS[standing][act]);
                answers(canBe ? NONE : rows, x, "log", 0, 0, rows + 1, 0);
                answers(canBe ? RUNS[standing][act] : 0, x, "log", 0, 0, rows + 1, 1);
                answers(AFTER[standing][act] == 24 ? 1 : 0, x, "log", 0, 0, rows + 1, 2);
                answers(canBe ? AFTER[standing][act] : standing, x, "log", 0, 0, rows + 1, 3);
                int all = 0;
                for (int each = 10; each <= 18; each++) {
                    all += x.log(0, 0, rows + 1, each);
                }
                due("ACTS of the LOG", all, canBe ? rows + 1 : rows);
            }
        }
    }

    /** First outs, then a hit for the foremost man, walks for the others: how many rows SHEET 0 has then. */
    private static int wayTo(InningsHouse x, int standing) {
        x.sheet(0, 2, 60);
        int rows = 0;
        int here = 0;
        int[] acts = {standing >= 8 ? 0 : -1, standing >= 16 ? 0 : -1, (standing & 4) != 0 ? 4 : -1,
            (standing & 2) != 0 && (standing & 4) == 0 ? 3 : -1, (standing & 6) == 6 ? 1 : -1,
            (standing & 6) == 6 ? 7 : -1, (standing & 1) != 0 ? 1 : -1};
        for (int act : acts) {
            if (act >= 0) {
                x.set(0, rows * 3, act);
                x.set(0, rows * 3 + 1, AFTER[here][act]);
                x.set(0, rows * 3 + 2, RUNS[here][act]);
                here = AFTER[here][act];
                rows++;
            }
        }
        due("the way to a STANDING", here, standing);
        return rows;
    }

    private static void ask() {
        promise("24 ask");
        says("Of an ask the BODY told for the KIND begins, else that of the nearest KIND that it is, too, else the one "
            + "that is lent");
        InningsHouse x = withKinds();
        for (int s = 0; s < 5; s++) {
            for (int what = 0; what <= 1; what++) {
                x.ask(s, what);
                answers(10 + 10 * what + x.kind(s), x, "trace", 0);
            }
        }
    }

    private static void status() {
        promise("27 status");
        says("FINDINGS, of several the first in time: -1000010 less 1 NULL");
        InningsHouse x = withKinds();
        x.sheet(1, 0, 1);
        x.sheet(2, 1, 1);
        int[] found = {x.drop(0), x.set(1, 1, 0), x.as(0, 1), x.sheet(0, 0, -1), x.copy(1, 0, 2, 0, 1)};
        for (int number = 1; number <= 5; number++) {
            due("FINDING " + number, found[number - 1], -1000010 - number);
        }
        answers(5, x, "status");
    }
}
