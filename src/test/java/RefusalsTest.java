import java.util.ArrayList;
import java.util.List;

/**
 * Each refusal that the document tells: every number too small and too large, which refusal comes first, what
 * status() is then, and that nothing else is changed: the object answers on as its twin that was not asked.
 */
public final class RefusalsTest extends Dues {
    private static final int LEAST_FINDING = -1000015, FINDINGS = -1000010;

    /** An object in the state from which a refused call is tried; each time a new one. */
    private interface House {
        InningsHouse made();
    }

    public static void main(String[] args) {
        sheets();
        strikers();
        orders();
        runsToCome();
        games();
        logs();
        learning();
        asked();
        calmCalls();
        end();
    }

    /**
     * STRIKERS 0 to 4 (the last with no OUT left); SHEETS 0 (bytes), 1 (shorts, two SINGLES), 2 (ints: a BUNT, then
     * no STRIKERS), 3 (bytes, empty), the others missing; THE ORDER of three; both TEAMS; a TRACE of six.
     */
    private static InningsHouse house() {
        InningsHouse x = new InningsHouse();
        x.striker(100, 100, 100, 30, 19, 699);
        x.striker(100, 100, 100, 30, 29, 700);
        x.striker(100, 100, 100, 20, 40, 1000);
        x.striker(0, 0, 0, 0, 31, 700);
        x.striker(0, 1000, 0, 0, 0, 0);
        fill(x, 0, 0, 3, 1, 2, 0);
        fill(x, 1, 1, 2, 1, 0, 2, 3, 0);
        fill(x, 2, 2, 6, 8, 0, 5, -1);
        x.sheet(3, 0, 0);
        x.order(0, 0, 3);
        x.team(0, 1);
        x.team(1, 2);
        x.ask(2, 1);
        return x;
    }

    /** The same with twelve STRIKERS and THE ORDER of seven. */
    private static InningsHouse fullHouse() {
        InningsHouse x = house();
        for (int s = 5; s < 12; s++) {
            x.striker(s, 10 * s, s, s, s, 10 * s);
        }
        fill(x, 3, 0, 0, 1, 2, 3, 4, 5, 11);
        x.order(3, 0, 7);
        return x;
    }

    private static InningsHouse emptyHouse() {
        return new InningsHouse();
    }

    private static InningsHouse houseOfTeam(int team) {
        InningsHouse x = new InningsHouse();
        x.striker(0, 0, 0, 0, 500, 0);
        x.team(team, 0);
        return x;
    }

    private static void fill(InningsHouse x, int sheet, int lane, int... items) {
        x.sheet(sheet, lane, items.length);
        for (int i = 0; i < items.length; i++) {
            x.set(sheet, i, items[i]);
        }
    }

    /** Just outside of what is told, and as far outside as can be. */
    private static int[] outside(int least, int most) {
        return new int[] {least - 1, most + 1, LOW, HIGH};
    }

    /** The call with the argument at that place outside of least to most: BAD each time. */
    private static void badOutside(int at, int least, int most, String call, int... with) {
        for (int v : outside(least, most)) {
            refused(BAD, call, withOther(at, v, with));
        }
    }

    private static int[] withOther(int at, int v, int... with) {
        int[] other = with.clone();
        other[at] = v;
        return other;
    }

    private static void refused(int want, String call, int... with) {
        refused(want, RefusalsTest::house, call, with);
    }

    private static void refused(int want, House house, String call, int... with) {
        boolean isFinding = want >= LEAST_FINDING && want < FINDINGS;
        for (int ahead = 0; ahead <= 1; ahead++) {
            leavesAll(want, house, ahead, isFinding ? FINDINGS - want : ahead, call, with);
        }
    }

    private static void leavesAll(int want, House house, int statusAhead, int status, String call, int... with) {
        InningsHouse x = withStatus(house.made(), statusAhead);
        InningsHouse twin = withStatus(house.made(), statusAhead);
        String told = told(call, with);
        due(told, called(x, call, with), want);
        due(told + " with status " + statusAhead + " ahead, then status()", x.status(), status);
        int[] after = probe(x);
        int[] untouched = probe(twin);
        for (int k = 0; k < after.length; k++) {
            if (after[k] != untouched[k]) {
                fault(told + " changed something: answer " + k + " of the probe is " + after[k] + ", of its twin "
                    + untouched[k]);
                return;
            }
        }
    }

    private static InningsHouse withStatus(InningsHouse x, int status) {
        x.sheet(6, 0, 0);
        x.drop(6);
        if (status == 1) {
            x.drop(6);
        }
        due("status() ahead", x.status(), status);
        return x;
    }

    /** All that can be asked of an object, what changes it last. */
    private static int[] probe(InningsHouse x) {
        List<Integer> told = new ArrayList<>();
        for (int k = 0; k < 18; k++) {
            told.add(x.trace(k));
            told.add(x.count(k));
        }
        for (int s = 0; s < 12; s++) {
            told.add(x.kind(s));
            for (int act = 0; act <= 6; act++) {
                told.add(x.chance(s, act));
            }
        }
        told.add(x.striking(NONE));
        for (int place = 0; place < 9; place++) {
            told.add(x.striking(place));
        }
        told.add(x.rate());
        told.add(x.game(5, 0, 0, 12, 0));
        told.add(x.game(4, 0, 1, 12, 0));
        told.add(x.game(2, 1, 5, 3, 1));
        told.add(x.team(0, 0));
        told.add(x.team(1, 0));
        for (int sheet = 0; sheet < 8; sheet++) {
            probeSheet(x, sheet, told);
        }
        told.add(x.striker(0, 0, 0, 0, 0, 0));
        return told.stream().mapToInt(Integer::intValue).toArray();
    }

    private static void probeSheet(InningsHouse x, int sheet, List<Integer> told) {
        for (int i = 0; i < 8; i++) {
            told.add(x.order(sheet, i, 1));
            told.add(x.striking(0));
            told.add(x.log(sheet, i, 1, 3));
        }
        // The LANE is told by the only one of these copies that is no STORE.
        for (int lane = 0; lane <= 2; lane++) {
            x.sheet(7, lane, 0);
            told.add(x.copy(sheet, 0, 7, 0, 0));
        }
        x.drop(7);
        told.add(x.drop(sheet));
    }

    private static void sheets() {
        promise("2 sheet");
        says("BAD: SHEET, LANE, n above 60; SIZE.");
        badOutside(0, 0, 7, "sheet", 0, 0, 1);
        badOutside(1, 0, 2, "sheet", 0, 0, 1);
        refused(BAD, "sheet", 0, 0, 61);
        refused(BAD, "sheet", 0, 0, HIGH);
        refused(SIZE, "sheet", 0, 0, -1);
        refused(SIZE, "sheet", 0, 0, LOW);
        refused(SIZE, "sheet", 5, 2, -1);
        says("Refusals are answers, the first of these that fits: BAD");
        refused(BAD, "sheet", 8, 0, -1);
        refused(BAD, "sheet", 0, 3, -1);

        promise("3 set");
        says("BAD: SHEET; NULL; PLACE.");
        badOutside(0, 0, 7, "set", 0, 0, 1);
        for (int sheet = 0; sheet < 8; sheet++) {
            refused(NULL, RefusalsTest::emptyHouse, "set", sheet, 0, 1);
        }
        for (int i : outside(0, 3)) {
            refused(PLACE, "set", 0, i, 4);
        }
        refused(PLACE, "set", 3, 0, 4);
        refused(BAD, "set", 8, -1, 4);
        refused(NULL, "set", 4, -1, 4);

        copies();

        promise("5 drop");
        says("A SHEET is missing from now on: how many ITEMS it had. BAD; NULL.");
        badOutside(0, 0, 7, "drop", 0);
        for (int sheet = 0; sheet < 8; sheet++) {
            refused(NULL, RefusalsTest::emptyHouse, "drop", sheet);
        }
        refused(NULL, "drop", 4);
    }

    private static void copies() {
        promise("4 copy");
        says("BAD: SHEETS; NULL; STORE; PLACE (i, j, n below 0, or beyond an end).");
        badOutside(0, 0, 7, "copy", 0, 0, 0, 0, 1);
        badOutside(2, 0, 7, "copy", 0, 0, 0, 0, 1);
        refused(BAD, "copy", 8, -1, 4, -1, -1);
        refused(BAD, "copy", 4, -1, 8, -1, -1);
        refused(NULL, "copy", 4, 0, 0, 0, 1);
        refused(NULL, "copy", 0, 0, 4, 0, 1);
        refused(NULL, "copy", 4, 0, 4, 0, 0);
        says("then FINDINGS, of several the first in time");
        refused(NULL, "copy", 4, -1, 0, 0, 1);
        refused(NULL, "copy", 0, 0, 4, -1, -1);
        for (int a = 0; a <= 2; a++) {
            for (int b = 0; b <= 2; b++) {
                if (a != b) {
                    refused(STORE, "copy", a, 0, b, 0, 1);
                    refused(STORE, "copy", a, 0, b, 0, 0);
                    refused(STORE, "copy", a, -1, b, 99, -1);
                }
            }
        }
        int[][] places = {{-1, 0, 1}, {0, -1, 1}, {0, 0, -1}, {1, 0, 4}, {0, 1, 4}, {4, 0, 1}, {0, 4, 1}, {0, 0, 5},
            {5, 0, 0}, {0, 5, 0}, {-1, 0, 0}, {0, -1, 0}, {-1, 0, 5}, {2, 2, -1}};
        for (int[] p : places) {
            refused(PLACE, "copy", 0, p[0], 0, p[1], p[2]);
        }
        // Sums that wrap around.
        int[][] far = {{HIGH, 0, 1}, {0, HIGH, 1}, {1, 0, HIGH}, {0, 1, HIGH}, {HIGH, HIGH, HIGH}, {HIGH, 0, 0},
            {LOW, 0, 1}, {0, LOW, 1}, {0, 0, LOW}, {LOW, LOW, LOW}, {LOW, 0, HIGH}, {HIGH, 0, LOW}};
        for (int[] p : far) {
            refused(PLACE, "copy", 0, p[0], 0, p[1], p[2]);
        }
        refused(PLACE, "copy", 0, 0, 3, 0, 1);
        refused(PLACE, "copy", 3, 0, 0, 0, 1);
    }

    private static void strikers() {
        promise("6 behind");
        says("Behind an ACT (0 to 8) in a STANDING (0 to 23): the STANDING (what = 0), RUNS (1); NONE: it cannot be. BAD.");
        badOutside(0, 0, 23, "behind", 0, 0, 0);
        badOutside(1, 0, 8, "behind", 0, 0, 0);
        badOutside(2, 0, 1, "behind", 0, 0, 0);
        // It cannot be, and the number is not as told.
        badOutside(2, 0, 1, "behind", 0, 7, 0);
        badOutside(0, 0, 23, "behind", 0, 7, 0);

        promise("7 striker");
        says("BAD: a number; CHANCES above 1000 together; FULL: 12.");
        for (int at = 0; at < 6; at++) {
            badOutside(at, 0, 1000, "striker", 0, 0, 0, 0, 0, 0);
        }
        refused(BAD, "striker", 201, 200, 200, 200, 200, 0);
        refused(BAD, "striker", 200, 200, 200, 200, 201, 0);
        refused(BAD, "striker", 1000, 0, 0, 0, 1, 0);
        refused(BAD, "striker", 1000, 1000, 1000, 1000, 1000, 1000);
        refused(BAD, "striker", -1, 1000, 0, 0, 0, 0);
        // Sums that wrap around to 0 and to 1000.
        refused(BAD, "striker", HIGH, HIGH, 2, 0, 0, 0);
        refused(BAD, "striker", LOW, LOW, 1000, 0, 0, 0);
        refused(FULL, RefusalsTest::fullHouse, "striker", 0, 0, 0, 0, 0, 0);
        refused(FULL, RefusalsTest::fullHouse, "striker", 200, 200, 200, 200, 200, 1000);
        refused(BAD, RefusalsTest::fullHouse, "striker", 0, 0, 0, 0, 0, 1001);
        refused(BAD, RefusalsTest::fullHouse, "striker", 1000, 1, 0, 0, 0, 0);

        promise("8 train");
        says("BAD: STRIKER, act (1 to 6), v; STATE: CHANCES would be above 1000 together.");
        badOutside(0, 0, 4, "train", 0, 1, 5);
        badOutside(1, 1, 6, "train", 0, 1, 5);
        badOutside(2, 0, 1000, "train", 0, 1, 5);
        badOutside(2, 0, 1000, "train", 0, 6, 5);
        refused(BAD, RefusalsTest::emptyHouse, "train", 0, 1, 0);
        for (int act = 1; act <= 5; act++) {
            if (act != 2) {
                refused(STATE, "train", 4, act, 1);
            }
        }
        // OUT is 651, WALK 100 ahead.
        refused(STATE, "train", 0, 1, 752);
        refused(STATE, "train", 0, 5, 671);
        refused(BAD, "train", 4, 1, 1001);
        refused(BAD, "train", 4, 7, 1);

        promise("9 chance");
        says("CHANCE of an ACT 0 to 5 of a STRIKER; STEALS (6). BAD.");
        badOutside(0, 0, 4, "chance", 0, 0);
        badOutside(1, 0, 6, "chance", 0, 0);
        refused(BAD, RefusalsTest::emptyHouse, "chance", 0, 0);
        refused(BAD, RefusalsTest::fullHouse, "chance", 12, 0);
    }

    private static void orders() {
        promise("10 order");
        says("BAD: SHEET, n; NULL; PLACE; then BAD: no such STRIKER.");
        badOutside(0, 0, 7, "order", 0, 0, 1);
        badOutside(2, 1, 9, "order", 0, 0, 1);
        refused(BAD, "order", 8, -1, 1);
        refused(BAD, "order", 4, -1, 0);
        refused(BAD, "order", 0, -1, 10);
        refused(NULL, "order", 4, 0, 1);
        refused(NULL, "order", 4, -1, 9);
        for (int i : outside(0, 3)) {
            refused(PLACE, "order", 0, i, 1);
        }
        refused(PLACE, "order", 0, 0, 5);
        refused(PLACE, "order", 0, 1, 4);
        refused(PLACE, "order", 0, HIGH, 9);
        refused(PLACE, "order", 3, 0, 1);
        // STRIKER -1 stands there, and the end is near.
        refused(PLACE, "order", 2, 4, 2);
        refused(BAD, "order", 2, 0, 1);
        refused(BAD, "order", 2, 2, 2);
        refused(BAD, "order", 2, 3, 1);
        refused(BAD, "order", 2, 4, 1);
        refused(BAD, RefusalsTest::houseWithoutStrikers, "order", 0, 0, 1);

        promise("11 striking");
        says("The STRIKER at a place of THE ORDER; of NONE how many places. BAD: place.");
        badOutside(0, 0, 2, "striking", 0);
        refused(BAD, "striking", NONE - 1);
        refused(BAD, "striking", NONE + 1);
        refused(BAD, RefusalsTest::emptyHouse, "striking", 0);
        refused(BAD, RefusalsTest::fullHouse, "striking", 7);
    }

    private static InningsHouse houseWithoutStrikers() {
        InningsHouse x = new InningsHouse();
        x.sheet(0, 0, 1);
        return x;
    }

    private static void runsToCome() {
        promise("12 mean");
        says("MEAN. BAD: STANDING (0 to 24), place, n.");
        badOutside(0, 0, 24, "mean", 0, 0, 5);
        badOutside(1, 0, 2, "mean", 0, 0, 5);
        badOutside(2, 0, 30, "mean", 0, 0, 5);
        badOutside(1, 0, 2, "mean", 24, 0, 0);
        badOutside(2, 0, 30, "mean", 24, 0, 0);
        badOutside(0, 0, 24, "mean", 0, 0, 0);
        refused(BAD, "mean", 0, NONE, 5);
        refused(BAD, RefusalsTest::emptyHouse, "mean", 0, 0, 0);

        promise("13 likely");
        says("LIKELY of r RUNS. BAD: STANDING, place, n, r.");
        badOutside(0, 0, 24, "likely", 0, 0, 5, 0);
        badOutside(1, 0, 2, "likely", 0, 0, 5, 0);
        badOutside(2, 0, 30, "likely", 0, 0, 5, 0);
        badOutside(3, 0, 9, "likely", 0, 0, 5, 0);
        badOutside(3, 0, 9, "likely", 24, 0, 0, 0);
        refused(BAD, RefusalsTest::emptyHouse, "likely", 0, 0, 0, 0);

        promise("14 worth");
        says("WORTH of an ACT (0 to 6). BAD: STANDING (0 to 23), ACT, place, n (1 to 30).");
        badOutside(0, 0, 23, "worth", 0, 0, 0, 5);
        badOutside(1, 0, 6, "worth", 1, 0, 0, 5);
        badOutside(2, 0, 2, "worth", 0, 0, 0, 5);
        badOutside(3, 1, 30, "worth", 0, 0, 0, 5);
        refused(BAD, RefusalsTest::emptyHouse, "worth", 0, 0, 0, 1);

        promise("15 rate");
        says("RATE of THE ORDER. STATE: there is none.");
        refused(STATE, RefusalsTest::emptyHouse, "rate");
        promise("16 swapped");
        says("THE ORDER is SWAPPED: how many were exchanged. STATE likewise.");
        refused(STATE, RefusalsTest::emptyHouse, "swapped");
        promise("17 best");
        says("STATE: there is none, or of more than 6 places.");
        refused(STATE, RefusalsTest::emptyHouse, "best");
        refused(STATE, RefusalsTest::fullHouse, "best");
    }

    private static void games() {
        promise("18 team");
        says("A TEAM's STRIKER: who it was (NONE). BAD.");
        badOutside(0, 0, 1, "team", 0, 0);
        badOutside(1, 0, 4, "team", 0, 0);
        refused(BAD, "team", 0, NONE);
        refused(BAD, RefusalsTest::emptyHouse, "team", 0, 0);

        promise("19 game");
        says("BAD: HALVES, LEAD, STANDING (0 to 24), n, what; STATE: a TEAM has none.");
        int[][] told = {{0, 5}, {-9, 9}, {0, 24}, {0, 12}, {0, 2}};
        for (int at = 0; at < told.length; at++) {
            badOutside(at, told[at][0], told[at][1], "game", 1, 0, 0, 5, 0);
            badOutside(at, told[at][0], told[at][1], "game", 0, 0, 24, 0, 1);
            for (int v : outside(told[at][0], told[at][1])) {
                refused(BAD, RefusalsTest::emptyHouse, "game", withOther(at, v, 1, 0, 0, 5, 0));
            }
        }
        for (int what = 0; what <= 2; what++) {
            refused(STATE, RefusalsTest::emptyHouse, "game", 1, 0, 0, 5, what);
            refused(STATE, () -> houseOfTeam(0), "game", 2, 0, 0, 5, what);
            refused(STATE, () -> houseOfTeam(1), "game", 1, 0, 0, 5, what);
            refused(STATE, () -> houseOfTeam(1), "game", 0, 0, 24, 0, what);
        }
    }

    private static void logs() {
        promise("20 log");
        says("BAD: SHEET, n, what; NULL; PLACE.");
        badOutside(0, 0, 7, "log", 1, 0, 1, 0);
        badOutside(2, 1, 20, "log", 1, 0, 1, 0);
        badOutside(3, 0, 3, "log", 1, 0, 1, 0);
        badOutside(3, 10, 18, "log", 1, 0, 1, 0);
        for (int what = 4; what <= 9; what++) {
            refused(BAD, "log", 1, 0, 1, what);
        }
        refused(BAD, "log", 8, -1, 1, 0);
        refused(BAD, "log", 4, -1, 0, 0);
        refused(BAD, "log", 4, -1, 1, 4);
        refused(BAD, "log", 1, -1, 21, 0);
        refused(NULL, "log", 4, 0, 1, 0);
        refused(NULL, "log", 4, -1, 20, 0);
        places("log", 0);
    }

    private static void learning() {
        promise("21 learn");
        says("BAD: SHEET, n, STEALS; FULL: 12; NULL; PLACE; STATE behind all: no ACT 0 to 5 is in it.");
        badOutside(0, 0, 7, "learn", 1, 0, 1, 0);
        badOutside(2, 1, 20, "learn", 1, 0, 1, 0);
        badOutside(3, 0, 1000, "learn", 1, 0, 1, 0);
        refused(BAD, "learn", 4, -1, 0, 0);
        refused(BAD, "learn", 4, -1, 1, 1001);
        refused(NULL, "learn", 4, 0, 1, 0);
        refused(NULL, "learn", 4, -1, 20, 0);
        places("learn", 500);
        // A BUNT alone; a row that clashes at once.
        refused(STATE, "learn", 2, 0, 1, 0);
        refused(STATE, "learn", 0, 0, 1, 0);
        refused(FULL, RefusalsTest::fullHouse, "learn", 1, 0, 1, 0);
        refused(FULL, RefusalsTest::fullHouse, "learn", 4, 0, 1, 0);
        refused(FULL, RefusalsTest::fullHouse, "learn", 1, -1, 1, 0);
        refused(FULL, RefusalsTest::fullHouse, "learn", 2, 0, 1, 0);
        refused(BAD, RefusalsTest::fullHouse, "learn", 8, 0, 1, 0);
        refused(BAD, RefusalsTest::fullHouse, "learn", 1, 0, 21, 0);
        refused(BAD, RefusalsTest::fullHouse, "learn", 1, 0, 1, 1001);
    }

    /** SHEET 1 has six ITEMS, SHEET 3 none; what clashes ahead of the end changes nothing in this. */
    private static void places(String call, int last) {
        int[][] wrong = {{-1, 1}, {4, 1}, {6, 1}, {1, 2}, {0, 3}, {0, 20}, {5, 1}, {HIGH, 1}, {HIGH, 20}, {LOW, 1},
            {HIGH - 59, 20}, {HIGH - 2, 1}};
        for (int[] w : wrong) {
            refused(PLACE, call, 1, w[0], w[1], last);
        }
        refused(PLACE, call, 3, 0, 1, last);
        refused(PLACE, call, 0, 0, 2, last);
    }

    private static void asked() {
        promise("22 kind");
        says("The KIND of a STRIKER, as it is told. BAD.");
        badOutside(0, 0, 4, "kind", 0);
        refused(BAD, RefusalsTest::emptyHouse, "kind", 0);
        refused(BAD, RefusalsTest::fullHouse, "kind", 12);

        promise("23 as");
        says("BAD; KIND: it is no such one (each is a STRIKER, STRONG ones are SAFE, too).");
        badOutside(0, 0, 4, "as", 0, 0);
        badOutside(1, 0, 3, "as", 0, 0);
        refused(BAD, "as", 5, 4);
        refused(BAD, RefusalsTest::emptyHouse, "as", 0, 0);
        int[][] notOnes = {{0, 1}, {0, 2}, {0, 3}, {1, 2}, {1, 3}, {2, 3}, {3, 1}, {3, 2}, {4, 2}, {4, 3}};
        for (int[] n : notOnes) {
            refused(KIND, "as", n[0], n[1]);
        }

        promise("24 ask");
        says("An ASK (0, 1) of a STRIKER. BAD.");
        badOutside(0, 0, 4, "ask", 0, 0);
        badOutside(1, 0, 1, "ask", 0, 0);
        refused(BAD, RefusalsTest::emptyHouse, "ask", 0, 0);

        promise("26 count");
        says("6 TEAMS with a STRIKER. BAD.");
        badOutside(0, 0, 6, "count", 0);
    }

    /** Calls that only ask change nothing, and leave status() as it was. */
    private static void calmCalls() {
        promise("27 status");
        says("Of the latest call with a SHEET, or as(), that was not BAD, STATE, FULL: the number of its FINDING");
        calm("behind", 0, 7, 0);
        calm("chance", 0, 6);
        calm("striking", 0);
        calm("striking", NONE);
        calm("mean", 0, 0, 30);
        calm("likely", 0, 0, 30, 9);
        calm("worth", 0, 6, 0, 30);
        calm("rate");
        calm("game", 5, 0, 0, 12, 2);
        calm("game", 0, 0, 24, 0, 1);
        calm("kind", 2);
        calm("trace", 0);
        calm("trace", -1);
        calm("trace", 16);
        calm("count", 0);
        calm("status");
    }

    private static void calm(String call, int... with) {
        for (int ahead = 0; ahead <= 1; ahead++) {
            int want = called(withStatus(house(), ahead), call, with);
            leavesAll(want, RefusalsTest::house, ahead, ahead, call, with);
        }
    }
}
