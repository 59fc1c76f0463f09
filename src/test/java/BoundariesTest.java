/**
 * The document sentence by sentence: each that names a boundary case is quoted, and tested at that boundary.
 * Answers are by hand. What is refused there has a test of its own, RefusalsTest.
 */
public final class BoundariesTest extends Dues {
    public static void main(String[] args) {
        newObject();
        sheet();
        set();
        copy();
        drop();
        behind();
        striker();
        train();
        chance();
        order();
        striking();
        mean();
        likely();
        worth();
        rate();
        swapped();
        best();
        team();
        game();
        log();
        learn();
        kind();
        as();
        ask();
        trace();
        count();
        status();
        everyPromiseIsNamed();
        end();
    }

    private static void newObject() {
        promise("1 A new object");
        InningsHouse x = new InningsHouse();
        says("No SHEETS, no STRIKERS, no ORDER.");
        for (int what = 0; what <= 6; what++) {
            answers(0, x, "count", what);
        }
        answers(0, x, "striking", NONE);
        answers(BAD, x, "striking", 0);
        answers(BAD, x, "kind", 0);
        says("SHEETS 0 .. 7 are missing (at first)");
        for (int s = 0; s < 8; s++) {
            answers(NULL, new InningsHouse(), "drop", s);
        }
        says("An object is used for at most 512 calls after it has been made; what later calls answer is free.");
        answers(0, x, "striker", 0, 0, 0, 0, 1000, 0);
        answers(1, x, "sheet", 0, 0, 1);
        answers(1, x, "order", 0, 0, 1);
        for (int call = 14; call < 512; call++) {
            answers(0, x, "striking", 0);
        }
        answers(30000000, x, "mean", 0, 0, 30);
    }

    /** With STRIKER 0 alone an ORDER can be taken only where each ITEM is 0. */
    private static void allAreZero(InningsHouse x, int sheet, int n) {
        for (int i = 0; i < n; i += 9) {
            answers(Math.min(9, n - i), x, "order", sheet, i, Math.min(9, n - i));
        }
    }

    private static void fillWithOnes(InningsHouse x, int sheet, int n) {
        for (int i = 0; i < n; i++) {
            answers(1, x, "set", sheet, i, 1);
        }
    }

    private static void sheet() {
        promise("2 sheet");
        says("have a LANE (0 bytes, 1 shorts, 2 ints) and 0 to 60 ITEMS, 0 at first.");
        for (int s = 0; s < 8; s++) {
            InningsHouse x = new InningsHouse();
            x.striker(0, 0, 0, 0, 0, 0);
            for (int lane = 0; lane <= 2; lane++) {
                for (int n : new int[] {0, 1, 59, 60}) {
                    answers(n, x, "sheet", s, lane, n);
                    allAreZero(x, s, n);
                    answers(PLACE, x, "set", s, n, 1);
                }
            }
            answers(1, x, "count", 0);
        }
        says("A SHEET of a LANE with n ITEMS, in place of what is there: n.");
        InningsHouse x = new InningsHouse();
        x.striker(0, 0, 0, 0, 0, 0);
        x.sheet(1, 2, 1);
        x.set(1, 0, 1);
        for (int n : new int[] {60, 3, 60, 0, 60}) {
            answers(n, x, "sheet", 0, n == 3 ? 0 : 2, n);
            allAreZero(x, 0, n);
            answers(PLACE, x, "set", 0, n, 1);
            if (n == 3) {
                answers(44, x, "set", 0, 2, 300);
            }
            fillWithOnes(x, 0, n);
        }
        answers(60, x, "drop", 0);
        answers(60, x, "sheet", 0, 2, 60);
        allAreZero(x, 0, 60);
        due("SHEET 1 is as it was: order(1, 0, 1)", x.order(1, 0, 1), BAD);
    }

    private static void set() {
        promise("3 set");
        says("ITEM i becomes v, its lowest bits, as many as the LANE has: what it is then.");
        InningsHouse x = new InningsHouse();
        int[][] bytes = {{0, 0}, {127, 127}, {128, -128}, {255, -1}, {256, 0}, {257, 1}, {-1, -1}, {-128, -128},
            {-129, 127}, {32768, 0}, {65535, -1}, {LOW, 0}, {HIGH, -1}};
        int[][] shorts = {{128, 128}, {255, 255}, {256, 256}, {32767, 32767}, {32768, -32768}, {65535, -1}, {65536, 0},
            {65537, 1}, {-32768, -32768}, {-32769, 32767}, {LOW, 0}, {HIGH, -1}};
        int[][] ints = {{32768, 32768}, {65536, 65536}, {-32769, -32769}, {LOW, LOW}, {HIGH, HIGH}, {NONE, NONE}};
        int[][][] lanes = {bytes, shorts, ints};
        for (int lane = 0; lane <= 2; lane++) {
            x.sheet(lane, lane, 60);
            for (int[] pair : lanes[lane]) {
                answers(pair[1], x, "set", lane, 0, pair[0]);
                answers(pair[1], x, "set", lane, 59, pair[0]);
            }
        }
        x = withFour();
        says("its lowest bits, as many as the LANE has");
        for (int lane = 0; lane <= 2; lane++) {
            x.sheet(0, lane, 3);
            answers(3, x, "set", 0, 1, 3);
            answers(3, x, "order", 0, 0, 3);
            orderIs(x, 0, 3, 0);
            x.set(0, 1, 256 + 2);
            answers(lane == 0 ? 1 : BAD, x, "order", 0, 1, 1);
            x.set(0, 1, 65536 + 2);
            answers(lane <= 1 ? 1 : BAD, x, "order", 0, 1, 1);
            x.set(0, 1, -1);
            answers(BAD, x, "order", 0, 1, 1);
        }
    }

    private static InningsHouse withTwelve() {
        InningsHouse x = new InningsHouse();
        for (int s = 0; s < 12; s++) {
            x.striker(s, 0, 0, 0, 0, 0);
        }
        return x;
    }

    private static void itemsAre(InningsHouse x, int sheet, int... items) {
        for (int i = 0; i < items.length; i++) {
            answers(1, x, "order", sheet, i, 1);
            due("ITEM " + i + " of SHEET " + sheet, x.striking(0), items[i]);
        }
    }

    private static void copy() {
        promise("4 copy");
        says("n ITEMS of a from i on come to b from j on, as they were ahead: n.");
        InningsHouse x = withTwelve();
        write(x, 0, 1, 2, 3, 4, 5);
        answers(4, x, "copy", 0, 0, 0, 1, 4);
        itemsAre(x, 0, 1, 1, 2, 3, 4);
        write(x, 0, 1, 2, 3, 4, 5);
        answers(4, x, "copy", 0, 1, 0, 0, 4);
        itemsAre(x, 0, 2, 3, 4, 5, 5);
        answers(5, x, "copy", 0, 0, 0, 0, 5);
        itemsAre(x, 0, 2, 3, 4, 5, 5);
        write(x, 1, 9, 9, 9, 9, 9);
        answers(2, x, "copy", 0, 0, 1, 3, 2);
        itemsAre(x, 1, 9, 9, 9, 2, 3);
        itemsAre(x, 0, 2, 3, 4, 5, 5);
        answers(1, x, "copy", 0, 4, 1, 0, 1);
        itemsAre(x, 1, 5, 9, 9, 2, 3);
        says("PLACE (i, j, n below 0, or beyond an end)");
        answers(0, x, "copy", 0, 5, 1, 5, 0);
        answers(0, x, "copy", 0, 0, 1, 0, 0);
        itemsAre(x, 1, 5, 9, 9, 2, 3);
        answers(PLACE, x, "copy", 0, 6, 1, 5, 0);
        answers(PLACE, x, "copy", 0, 5, 1, 6, 0);
        answers(PLACE, x, "copy", 0, 1, 1, 0, 5);
        answers(PLACE, x, "copy", 0, 0, 1, 1, 5);
        itemsAre(x, 1, 5, 9, 9, 2, 3);
        copyOfWholes();
        copyOfLanes();
    }

    private static void copyOfWholes() {
        InningsHouse x = withTwelve();
        x.sheet(0, 0, 60);
        x.sheet(7, 0, 60);
        for (int i = 0; i < 60; i++) {
            x.set(0, i, i % 12);
        }
        answers(60, x, "copy", 0, 0, 7, 0, 60);
        for (int i = 0; i < 60; i++) {
            x.order(7, i, 1);
            due("ITEM " + i + " of sixty", x.striking(0), i % 12);
        }
        x.sheet(1, 0, 0);
        answers(0, x, "copy", 1, 0, 1, 0, 0);
        answers(0, x, "copy", 0, 60, 1, 0, 0);
        answers(PLACE, x, "copy", 0, 0, 1, 0, 1);
    }

    private static void copyOfLanes() {
        says("5 STORE (SHEETS of two LANES)");
        InningsHouse x = withTwelve();
        for (int lane = 0; lane <= 2; lane++) {
            x.sheet(lane, lane, 2);
            x.sheet(3 + lane, lane, 2);
            x.set(lane, 0, 11);
        }
        for (int a = 0; a <= 2; a++) {
            for (int b = 3; b <= 5; b++) {
                answers(a == b - 3 ? 2 : STORE, x, "copy", a, 0, b, 0, 2);
            }
            itemsAre(x, 3 + a, 11, 0);
        }
    }

    private static void drop() {
        promise("5 drop");
        says("A SHEET is missing from now on: how many ITEMS it had.");
        InningsHouse x = withFour();
        for (int n : new int[] {0, 1, 60}) {
            x.sheet(7, 2, n);
            x.sheet(6, 2, 9);
            answers(n, x, "drop", 7);
            answers(1, x, "count", 0);
            answers(NULL, x, "drop", 7);
            answers(NULL, x, "set", 7, 0, 0);
            answers(NULL, x, "copy", 7, 0, 6, 0, 0);
            answers(NULL, x, "copy", 6, 0, 7, 0, 0);
            answers(NULL, x, "order", 7, 0, 1);
            answers(NULL, x, "log", 7, 0, 1, 0);
            answers(NULL, x, "learn", 7, 0, 1, 0);
        }
        orderOf(x, 3, 1);
        answers(2, x, "drop", 7);
        orderIs(x, 3, 1);
        answers(9, x, "drop", 6);
        answers(0, x, "count", 0);
    }

    private static void leads(InningsHouse x, int standing, int act, int after, int runs) {
        answers(after, x, "behind", standing, act, 0);
        answers(runs, x, "behind", standing, act, 1);
    }

    private static void behind() {
        promise("6 behind");
        InningsHouse x = new InningsHouse();
        says("24: the half is over");
        says("0 OUT: one more is out, men stay.");
        leads(x, 0, 0, 8, 0);
        leads(x, 7, 0, 15, 0);
        leads(x, 15, 0, 23, 0);
        says("The third out makes it 24, whatever else stands.");
        for (int men = 0; men < 8; men++) {
            leads(x, 16 + men, 0, 24, 0);
            leads(x, 16 + men, 6, 24, 0);
        }
        leads(x, 17, 8, 24, 0);
        leads(x, 21, 8, 24, 0);
        walks(x);
        hits(x);
        says("6 BUNT: one more is out; if that is not the third, men go one base on (from 3 home).");
        int[] bunts = {0, 2, 4, 6, 0, 2, 4, 6};
        for (int men = 0; men < 8; men++) {
            leads(x, men, 6, 8 + bunts[men], men >= 4 ? 1 : 0);
            leads(x, 8 + men, 6, 16 + bunts[men], men >= 4 ? 1 : 0);
        }
        says("7 STEAL (with a man on 1, none on 2): he goes to 2. 8 CAUGHT (likewise): he is out.");
        leads(x, 1, 7, 2, 0);
        leads(x, 5, 7, 6, 0);
        leads(x, 21, 7, 22, 0);
        leads(x, 1, 8, 8, 0);
        leads(x, 5, 8, 12, 0);
        leads(x, 13, 8, 20, 0);
        says("NONE: it cannot be.");
        for (int standing = 0; standing < 24; standing++) {
            if ((standing & 3) != 1) {
                leads(x, standing, 7, NONE, NONE);
                leads(x, standing, 8, NONE, NONE);
            }
        }
    }

    private static void walks(InningsHouse x) {
        says("1 WALK: he comes to base 1; a man there is driven to 2, one there to 3, one there home "
            + "(men who are not driven stay).");
        int[] men = {1, 3, 3, 7, 5, 7, 7, 7};
        for (int standing = 0; standing < 24; standing++) {
            int outs = standing / 8 * 8;
            leads(x, standing, 1, outs + men[standing % 8], standing % 8 == 7 ? 1 : 0);
        }
    }

    private static void hits(InningsHouse x) {
        says("2 SINGLE: from 3 home, from 2 to 3, from 1 to 2, he to 1.");
        leads(x, 0, 2, 1, 0);
        leads(x, 7, 2, 7, 1);
        leads(x, 16 + 6, 2, 16 + 5, 1);
        says("3 DOUBLE: from 3 and 2 home, from 1 to 3, he to 2.");
        leads(x, 0, 3, 2, 0);
        leads(x, 7, 3, 6, 2);
        leads(x, 16 + 6, 3, 16 + 2, 2);
        leads(x, 8 + 1, 3, 8 + 6, 0);
        says("4 TRIPLE: all home, he to 3.");
        leads(x, 0, 4, 4, 0);
        leads(x, 7, 4, 4, 3);
        leads(x, 16 + 5, 4, 16 + 4, 2);
        says("5 HOMER: all home, and he.");
        leads(x, 0, 5, 0, 1);
        leads(x, 23, 5, 16, 4);
    }

    private static void chancesAre(InningsHouse x, int striker, int... chances) {
        for (int act = 0; act < chances.length; act++) {
            answers(chances[act], x, "chance", striker, act);
        }
    }

    private static void striker() {
        promise("7 striker");
        says("A STRIKER: CHANCES of ACTS 1 to 5 and STEALS (OUT is what is left of 1000): his number.");
        InningsHouse x = new InningsHouse();
        answers(0, x, "striker", 0, 0, 0, 0, 0, 0);
        chancesAre(x, 0, 1000, 0, 0, 0, 0, 0, 0);
        answers(1, x, "striker", 1, 2, 3, 4, 5, 6);
        chancesAre(x, 1, 985, 1, 2, 3, 4, 5, 6);
        answers(2, x, "striker", 200, 200, 200, 200, 199, 999);
        chancesAre(x, 2, 1, 200, 200, 200, 200, 199, 999);
        says("CHANCES above 1000 together");
        answers(3, x, "striker", 200, 200, 200, 200, 200, 1000);
        chancesAre(x, 3, 0, 200, 200, 200, 200, 200, 1000);
        answers(BAD, x, "striker", 200, 200, 200, 200, 201, 1000);
        answers(4, x, "striker", 1000, 0, 0, 0, 0, 0);
        answers(5, x, "striker", 0, 1000, 0, 0, 0, 0);
        answers(6, x, "striker", 0, 0, 1000, 0, 0, 0);
        answers(7, x, "striker", 0, 0, 0, 1000, 0, 0);
        answers(8, x, "striker", 0, 0, 0, 0, 1000, 1000);
        chancesAre(x, 8, 0, 0, 0, 0, 0, 1000, 1000);
        says("STRIKERS 0 .. 11 (12 at most)");
        for (int s = 9; s < 12; s++) {
            answers(s, x, "striker", 0, 0, 0, 0, 0, 0);
        }
        answers(FULL, x, "striker", 0, 0, 0, 0, 0, 0);
        answers(12, x, "count", 1);
        answers(1000, x, "chance", 11, 0);
        answers(BAD, x, "chance", 12, 0);
    }

    private static void train() {
        promise("8 train");
        says("A STRIKER's CHANCE of an ACT becomes v, of OUT what is left; STEALS (act 6): what it was.");
        InningsHouse x = new InningsHouse();
        x.striker(10, 20, 30, 40, 50, 60);
        x.striker(0, 0, 0, 0, 0, 0);
        for (int act = 1; act <= 5; act++) {
            answers(10 * act, x, "train", 0, act, 0);
            answers(0, x, "train", 0, act, 10 * act + 1);
            answers(10 * act + 1, x, "chance", 0, act);
            answers(850 - act, x, "chance", 0, 0);
        }
        answers(60, x, "train", 0, 6, 0);
        answers(0, x, "train", 0, 6, 1000);
        chancesAre(x, 0, 845, 11, 21, 31, 41, 51, 1000);
        chancesAre(x, 1, 1000, 0, 0, 0, 0, 0, 0);
        says("STATE: CHANCES would be above 1000 together.");
        answers(STATE, x, "train", 0, 3, 31 + 846);
        answers(31, x, "train", 0, 3, 31 + 845);
        answers(0, x, "chance", 0, 0);
        answers(876, x, "train", 0, 3, 876);
        answers(STATE, x, "train", 0, 1, 12);
        answers(11, x, "train", 0, 1, 10);
        answers(1, x, "chance", 0, 0);
        // STEALS are none of the CHANCES that are 1000 together.
        answers(1000, x, "train", 0, 6, 1000);
        answers(0, x, "train", 1, 5, 1000);
        chancesAre(x, 1, 0, 0, 0, 0, 0, 1000, 0);
    }

    private static void chance() {
        promise("9 chance");
        says("CHANCE of an ACT 0 to 5 of a STRIKER; STEALS (6).");
        InningsHouse x = new InningsHouse();
        x.striker(0, 0, 0, 0, 0, 1000);
        x.striker(1, 20, 300, 4, 50, 0);
        chancesAre(x, 0, 1000, 0, 0, 0, 0, 0, 1000);
        chancesAre(x, 1, 625, 1, 20, 300, 4, 50, 0);
        answers(BAD, x, "chance", 1, 7);
        answers(BAD, x, "chance", 2, 0);
    }

    private static void order() {
        promise("10 order");
        says("THE ORDER: 1 to 9 STRIKERS (any; one may stand twice), over and over.");
        InningsHouse x = withTwelve();
        write(x, 0, 11, 10, 9, 8, 7, 6, 5, 4, 3, 2, 1, 0);
        answers(9, x, "order", 0, 0, 9);
        orderIs(x, 11, 10, 9, 8, 7, 6, 5, 4, 3);
        answers(9, x, "order", 0, 3, 9);
        orderIs(x, 8, 7, 6, 5, 4, 3, 2, 1, 0);
        answers(PLACE, x, "order", 0, 4, 9);
        answers(1, x, "order", 0, 11, 1);
        orderIs(x, 0);
        answers(PLACE, x, "order", 0, 12, 1);
        write(x, 1, 5, 5, 5, 5, 5, 5, 5, 5, 5);
        answers(9, x, "order", 1, 0, 9);
        orderIs(x, 5, 5, 5, 5, 5, 5, 5, 5, 5);
        says("THE ORDER is n STRIKERS (1 to 9), ITEMS of a SHEET from i on: n.");
        x.set(1, 0, 1);
        x.sheet(1, 0, 0);
        orderIs(x, 5, 5, 5, 5, 5, 5, 5, 5, 5);
        says("then BAD: no such STRIKER.");
        InningsHouse y = new InningsHouse();
        write(y, 0, 0, 1, 0);
        answers(BAD, y, "order", 0, 0, 1);
        y.striker(0, 0, 0, 0, 0, 0);
        answers(1, y, "order", 0, 0, 1);
        answers(BAD, y, "order", 0, 0, 3);
        y.striker(0, 0, 0, 0, 0, 0);
        answers(3, y, "order", 0, 0, 3);
    }

    private static void striking() {
        promise("11 striking");
        says("The STRIKER at a place of THE ORDER; of NONE how many places.");
        InningsHouse x = withTwelve();
        answers(0, x, "striking", NONE);
        orderOf(x, 11);
        orderIs(x, 11);
        answers(BAD, x, "striking", 1);
        orderOf(x, 1, 2, 3, 4, 5, 6, 7, 8, 9);
        orderIs(x, 1, 2, 3, 4, 5, 6, 7, 8, 9);
        answers(BAD, x, "striking", 9);
        orderOf(x, 4, 4);
        orderIs(x, 4, 4);
        // A shorter ORDER leaves nothing of the longer one.
        answers(BAD, x, "striking", 2);
    }

    private static void mean() {
        promise("12 mean");
        says("0 for n 0, or STANDING 24");
        InningsHouse x = withFour();
        orderOf(x, 0);
        for (int standing = 0; standing <= 24; standing++) {
            answers(0, x, "mean", standing, 0, 0);
        }
        for (int n = 0; n <= 30; n++) {
            answers(0, x, "mean", 24, 0, n);
        }
        says("of n strikes (0 to 30) at most, in millionths");
        for (int n = 1; n <= 30; n++) {
            answers(n * 1000000, x, "mean", 0, 0, n);
            answers((n + 3) * 1000000, x, "mean", 23, 0, n);
        }
        orderOf(x, 3);
        answers(0, x, "mean", 0, 0, 3);
        answers(1000000, x, "mean", 0, 0, 4);
        answers(27000000, x, "mean", 0, 0, 30);
        says("MEAN of the STANDING behind it, the next place, n - 1");
        orderOf(x, 0, 1, 1, 1, 1, 1, 1, 1, 1);
        answers(0, x, "mean", 0, 8, 1);
        answers(1000000, x, "mean", 0, 8, 2);
        answers(1000000, x, "mean", 0, 8, 30);
        answers(0, x, "mean", 0, 5, 30);
        answers(1000000, x, "mean", 0, 7, 30);
        orderOf(x, 0, 3);
        // HOMER with nobody on, then WALK and HOMER of two over and over.
        answers(29000000, x, "mean", 0, 0, 29);
        answers(30000000, x, "mean", 0, 1, 30);
        says("All that is divided is cut towards 0.");
        x.striker(0, 0, 0, 0, 999, 0);
        orderOf(x, 4);
        // Two out: 999000; 999 * 1999000 = 1997001 thousands; 999 * 2997001 = 2994003.999 thousands.
        answers(999000, x, "mean", 16, 0, 1);
        answers(1997001, x, "mean", 16, 0, 2);
        answers(2994003, x, "mean", 16, 0, 3);
        says("with CHANCE c above 0");
        x.striker(0, 0, 0, 0, 1, 0);
        orderOf(x, 5);
        answers(1000, x, "mean", 0, 0, 1);
        answers(4000, x, "mean", 7, 0, 1);
        // 1 * 1001000 and 999 * 1000 of two out, then 2000 with one out.
        answers(1001, x, "mean", 16, 0, 2);
        answers(2000, x, "mean", 8, 0, 2);
    }

    private static void likely() {
        promise("13 likely");
        says("where n is 0 or the STANDING 24 1000000 for r 0, else 0");
        InningsHouse x = withFour();
        orderOf(x, 0);
        for (int r = 0; r <= 9; r++) {
            answers(r == 0 ? 1000000 : 0, x, "likely", 0, 0, 0, r);
            answers(r == 0 ? 1000000 : 0, x, "likely", 23, 0, 0, r);
            answers(r == 0 ? 1000000 : 0, x, "likely", 24, 0, 0, r);
            answers(r == 0 ? 1000000 : 0, x, "likely", 24, 0, 30, r);
        }
        says("LIKELY of r RUNS (0 to 8: just so many)");
        for (int n = 0; n <= 30; n++) {
            for (int r = 0; r <= 8; r++) {
                answers(r == n ? 1000000 : 0, x, "likely", 0, 0, n, r);
            }
        }
        says("LIKELY of 9 is that of 9 RUNS or more");
        for (int n = 0; n <= 30; n++) {
            answers(n >= 9 ? 1000000 : 0, x, "likely", 0, 0, n, 9);
        }
        says("LIKELY of r less RUNS behind it (0 for fewer than none)");
        answers(0, x, "likely", 0, 0, 1, 0);
        for (int r = 0; r <= 9; r++) {
            answers(r == 4 ? 1000000 : 0, x, "likely", 7, 0, 1, r);
        }
        says("of k or more 1000000 for k 0 and below");
        // HOMERS of four each, three WALKS between them: 4 RUNS, 8 of five strikes, 12 of nine.
        orderOf(x, 0, 3, 3, 3);
        answers(1000000, x, "likely", 7, 0, 8, 8);
        answers(0, x, "likely", 7, 0, 8, 9);
        answers(0, x, "likely", 7, 0, 9, 8);
        answers(1000000, x, "likely", 7, 0, 9, 9);
        answers(1000000, x, "likely", 7, 0, 30, 9);
        says("else 0 where n is 0 or the STANDING 24; else for each ACT c times that of k less RUNS or more behind it");
        // Two out: half of it nine times over, cut; then it is told, whatever more strikes bring.
        orderOf(x, 2);
        answers(0, x, "likely", 16, 0, 8, 9);
        answers(1953, x, "likely", 16, 0, 9, 9);
        answers(1953, x, "likely", 16, 0, 10, 9);
        answers(3906, x, "likely", 16, 0, 8, 8);
        answers(1953, x, "likely", 16, 0, 9, 8);
        likelyOfPlaces(x);
        says("All that is divided is cut towards 0.");
        x.striker(0, 0, 0, 0, 999, 0);
        orderOf(x, 4);
        // Two out: 999 * 998001 = 997002.999 thousands.
        answers(998001, x, "likely", 16, 0, 2, 2);
        answers(997002, x, "likely", 16, 0, 3, 3);
        x.striker(0, 0, 0, 0, 1, 0);
        orderOf(x, 5);
        answers(1000, x, "likely", 0, 0, 1, 1);
        answers(1, x, "likely", 0, 0, 2, 2);
        answers(0, x, "likely", 0, 0, 3, 3);
    }

    private static void likelyOfPlaces(InningsHouse x) {
        says("over and over");
        orderOf(x, 0, 1, 1, 1, 1, 1, 1, 1, 1);
        answers(1000000, x, "likely", 0, 8, 1, 0);
        answers(1000000, x, "likely", 0, 8, 2, 1);
        answers(0, x, "likely", 0, 8, 2, 0);
        answers(1000000, x, "likely", 0, 6, 3, 0);
        answers(1000000, x, "likely", 0, 6, 30, 0);
    }

    private static void worth() {
        promise("14 worth");
        says("RUNS times 1000000, and MEAN behind it (next place, n - 1), less MEAN (n).");
        InningsHouse x = withFour();
        orderOf(x, 0, 1);
        // n 1: no strike is left behind it.
        answers(0, x, "worth", 0, 5, 0, 1);
        answers(-1000000, x, "worth", 0, 0, 0, 1);
        answers(-1000000, x, "worth", 0, 4, 0, 1);
        answers(4000000, x, "worth", 7, 5, 1, 1);
        // The place behind the last is the first.
        answers(0, x, "worth", 0, 0, 1, 2);
        answers(1000000, x, "worth", 0, 1, 1, 2);
        // n 30: H O H O H O, but O H O behind an OUT.
        answers(1000000 - 3000000, x, "worth", 0, 0, 0, 30);
        says("WORTH of an ACT 0 to 6 in a STANDING");
        answers(-4000000, x, "worth", 23, 0, 0, 1);
        answers(-4000000, x, "worth", 23, 6, 0, 1);
        answers(1000000 - 4000000, x, "worth", 15, 6, 0, 1);
        answers(-1000000, x, "worth", 0, 6, 0, 1);
        // STANDING 24 is behind it: nothing more is to come.
        answers(0, x, "worth", 23, 0, 1, 30);
        answers(0, x, "worth", 23, 6, 1, 30);
    }

    private static void rate() {
        promise("15 rate");
        says("MEAN of STANDING 0 from place 0 with n 30, and from the place k half of THE ORDER (how many by 2), added.");
        InningsHouse x = withFour();
        orderOf(x, 0);
        answers(60000000, x, "rate");
        orderOf(x, 3);
        answers(54000000, x, "rate");
        // A HOMER at one place alone, all others OUT: it is met in three strikes from place 0 and from the half.
        int[] half = {0, 0, 1, 1, 2, 2, 3, 3, 4, 4};
        for (int places = 4; places <= 9; places++) {
            for (int at = 0; at < places; at++) {
                int[] row = new int[places];
                java.util.Arrays.fill(row, 1);
                row[at] = 0;
                orderOf(x, row);
                answers(homersMet(row, 0) + homersMet(row, half[places]), x, "rate");
            }
            x = withFour();
        }
    }

    /** By hand: HOMERS in millionths till the third OUT, from a place of the row on. */
    private static int homersMet(int[] row, int from) {
        int outs = 0;
        int homers = 0;
        for (int strike = 0; strike < 30 && outs < 3; strike++) {
            if (row[(from + strike) % row.length] == 0) {
                homers++;
            } else {
                outs++;
            }
        }
        return homers * 1000000;
    }

    private static void swapped() {
        promise("16 swapped");
        says("of all pairs a below b of places, in order, the first by which RATE is more is exchanged");
        InningsHouse x = withFour();
        orderOf(x, 2);
        answers(0, x, "swapped");
        orderIs(x, 2);
        // Two places exchanged have the same RATE, which is not more.
        orderOf(x, 1, 0);
        answers(0, x, "swapped");
        orderIs(x, 1, 0);
        orderOf(x, 2, 2, 2, 2, 2, 2, 2, 2, 2);
        answers(0, x, "swapped");
        // Nothing of a longer ORDER comes into a shorter one.
        orderOf(x, 0, 0, 0, 0, 0, 0, 0, 0, 0);
        orderOf(x, 1, 1);
        answers(0, x, "swapped");
        orderIs(x, 1, 1);
        // HOMER at 2: RATE 2; by 0 and 1 the same; by 0 and 2 it is 3, and no more is to come.
        orderOf(x, 1, 1, 0);
        answers(1, x, "swapped");
        orderIs(x, 0, 1, 1);
        answers(0, x, "swapped");
        says("over and over till there is none, or 40 were.");
        swappedFortyTimes();
    }

    /** An order from which 44 exchanges are to come. */
    private static void swappedFortyTimes() {
        int[][] nine = {{20, 116, 13, 55, 113}, {26, 94, 100, 58, 98}, {122, 23, 101, 84, 103}, {36, 54, 113, 54, 100},
            {9, 32, 16, 60, 45}, {12, 41, 32, 21, 10}, {6, 11, 4, 18, 14}, {63, 58, 18, 108, 145}, {82, 72, 39, 67, 36}};
        InningsHouse x = new InningsHouse();
        for (int[] c : nine) {
            x.striker(c[0], c[1], c[2], c[3], c[4], 0);
        }
        orderOf(x, 8, 3, 1, 0, 4, 6, 5, 7, 2);
        int before = x.rate();
        answers(40, x, "swapped");
        int between = x.rate();
        answers(4, x, "swapped");
        answers(0, x, "swapped");
        due("RATE is more each time", before < between && between < x.rate() ? 1 : 0, 1);
    }

    private static void best() {
        promise("17 best");
        says("BEST of up to 6 places");
        InningsHouse x = withFour();
        orderOf(x, 0);
        answers(60000000, x, "best");
        orderIs(x, 0);
        orderOf(x, 1, 1, 1, 1, 1, 0);
        // Wherever it stands the HOMER is met once, from 0 or from 3.
        answers(1000000, x, "best");
        orderIs(x, 0, 1, 1, 1, 1, 1);
        orderOf(x, 0, 1, 1, 1, 1, 1, 1);
        answers(STATE, x, "best");
        orderIs(x, 0, 1, 1, 1, 1, 1, 1);
        // No RUN ever: RATE 0 is the greatest, too.
        orderOf(x, 1, 1, 1);
        answers(0, x, "best");
        orderIs(x, 1, 1, 1);
        // Nothing of a longer ORDER comes into a shorter one.
        orderOf(x, 0, 0, 0, 0, 0, 0, 0, 0, 0);
        orderOf(x, 1, 1);
        answers(0, x, "best");
        orderIs(x, 1, 1);
        says("THE ORDER becomes BEST: its RATE.");
        says("of several the first as a row of numbers.");
        orderOf(x, 1, 0);
        answers(5000000, x, "best");
        orderIs(x, 0, 1);
        bestOfAlike();
        bestOfAll();
    }

    /** STRIKERS who are all alike: each order has the same RATE. */
    private static void bestOfAlike() {
        InningsHouse x = new InningsHouse();
        for (int s = 0; s < 12; s++) {
            x.striker(100, 100, 50, 10, 30, s);
        }
        orderOf(x, 5, 3, 4);
        due("best() of alike", x.best(), x.rate());
        orderIs(x, 3, 4, 5);
        orderOf(x, 11, 2, 11, 2);
        due("best() of alike, two twice", x.best(), x.rate());
        orderIs(x, 2, 2, 11, 11);
        orderOf(x, 9, 8, 7, 6, 5, 4);
        due("best() of six alike", x.best(), x.rate());
        orderIs(x, 4, 5, 6, 7, 8, 9);
    }

    /** Six who differ, each time with other numbers, so that the best row is met early and late among all. */
    private static void bestOfAll() {
        says("of all orders of the STRIKERS as they stand that with the greatest RATE");
        int[][] rows = {{5, 4, 3, 2, 1, 0}, {4, 1, 0, 2, 3}, {2, 5, 0, 3}, {5, 0, 5, 1, 1, 2}, {3, 1, 2}, {1, 1, 4, 4}};
        for (int shift = 0; shift < 6; shift++) {
            for (int[] row : rows) {
                Trial trial = new Trial(shift, row);
                trial.tryAll(0);
                InningsHouse x = withSix(shift);
                // Nothing of a longer ORDER comes into a shorter one.
                orderOf(x, 5, 5, 5, 5, 5, 5, 5, 5, 5);
                orderOf(x, row);
                answers(trial.most, x, "best");
                orderIs(x, trial.first);
                answers(trial.most, x, "rate");
            }
        }
    }

    private static InningsHouse withSix(int shift) {
        int[][] six = {{100, 150, 50, 10, 30}, {20, 100, 10, 0, 0}, {300, 200, 100, 50, 100}, {50, 50, 150, 20, 60},
            {0, 0, 0, 0, 250}, {250, 0, 0, 0, 0}};
        InningsHouse x = new InningsHouse();
        for (int s = 0; s < 6; s++) {
            int[] c = six[(s + shift) % 6];
            x.striker(c[0], c[1], c[2], c[3], c[4], 0);
        }
        x.sheet(0, 0, 6);
        return x;
    }

    /** All rows of the same numbers, the least first, each with its rate(). */
    private static final class Trial {
        final int shift;
        final int[] left = new int[6];
        final int[] row;
        int[] first = {};
        int most = -1;
        int tried = 0;
        InningsHouse x;

        Trial(int shift, int[] row) {
            this.shift = shift;
            this.row = row.clone();
            for (int s : row) {
                left[s]++;
            }
        }

        void tryAll(int place) {
            if (place == row.length) {
                tryRow();
                return;
            }
            for (int s = 0; s < 6; s++) {
                if (left[s] > 0) {
                    left[s]--;
                    row[place] = s;
                    tryAll(place + 1);
                    left[s]++;
                }
            }
        }

        private void tryRow() {
            // A new object in time: each is used for at most 512 calls.
            if (tried % 50 == 0) {
                x = withSix(shift);
            }
            tried++;
            for (int place = 0; place < row.length; place++) {
                x.set(0, place, row[place]);
            }
            x.order(0, 0, row.length);
            int rate = x.rate();
            if (rate > most) {
                most = rate;
                first = row.clone();
            }
        }
    }

    private static void team() {
        promise("18 team");
        says("A TEAM's STRIKER: who it was (NONE).");
        InningsHouse x = withTwelve();
        answers(NONE, x, "team", 0, 11);
        answers(1, x, "count", 6);
        answers(NONE, x, "team", 1, 11);
        answers(2, x, "count", 6);
        answers(11, x, "team", 0, 0);
        answers(0, x, "team", 0, 0);
        answers(11, x, "team", 1, 5);
        answers(0, x, "team", 0, 3);
        answers(2, x, "count", 6);
        answers(BAD, x, "team", 0, 12);
    }

    private static void game() {
        promise("19 game");
        halvesAndLead();
        halvesOver();
        cappedLead();
        otherStrikers();
        cutWins();
        choices();
        walkHim();
    }

    private static InningsHouse gameOf(int ofZero, int ofOne) {
        InningsHouse x = withFour();
        x.team(0, ofZero);
        x.team(1, ofOne);
        return x;
    }

    private static void halvesAndLead() {
        says("with no HALF left 1000000 if LEAD is above 0, 500000 if it is 0, else 0.");
        InningsHouse x = gameOf(0, 0);
        for (int lead = -9; lead <= 9; lead++) {
            answers(lead > 0 ? 1000000 : lead == 0 ? 500000 : 0, x, "game", 0, lead, 0, 12, 0);
            answers(lead > 0 ? 1000000 : lead == 0 ? 500000 : 0, x, "game", 0, lead, 24, 0, 0);
        }
        says("HALVES left 0 to 5, with this one (TEAM 1 strikes where they are odd, TEAM 0 where even)");
        // TEAM 0 strikes HOMERS, TEAM 1 is always OUT: TEAM 0 wins where it has a half left.
        x = gameOf(0, 1);
        for (int halves = 0; halves <= 5; halves++) {
            answers(halves >= 2 ? 1000000 : 0, x, "game", halves, -1, 0, 12, 0);
            answers(halves >= 2 ? 1000000 : 0, x, "game", halves, -9, 0, 12, 0);
        }
        // The other way about.
        x = gameOf(1, 0);
        for (int halves = 0; halves <= 5; halves++) {
            answers(halves >= 1 ? 0 : 1000000, x, "game", halves, 9, 0, 12, 0);
        }
        says("n strikes (0 to 12) left in this half");
        for (int n = 0; n <= 12; n++) {
            answers(n < 9 ? 1000000 : n == 9 ? 500000 : 0, x, "game", 1, 9, 0, n, 0);
        }
        says("(RUNS of TEAM 0 make LEAD more, of TEAM 1 less.)");
        answers(500000, x, "game", 1, 4, 7, 1, 0);
        answers(1000000, x, "game", 1, 5, 7, 1, 0);
        answers(0, x, "game", 1, 3, 7, 1, 0);
        x = gameOf(0, 1);
        answers(500000, x, "game", 2, -4, 7, 1, 0);
        answers(1000000, x, "game", 2, -3, 7, 1, 0);
        answers(0, x, "game", 2, -5, 7, 1, 0);
    }

    private static void halvesOver() {
        says("A half is over at STANDING 24 or n 0: then WIN of one HALF less, STANDING 0, n 12.");
        InningsHouse x = gameOf(2, 2);
        for (int halves = 1; halves <= 5; halves++) {
            int next = x.game(halves - 1, 1, 0, 12, 0);
            answers(next, x, "game", halves, 1, 24, 12, 0);
            answers(next, x, "game", halves, 1, 24, 0, 0);
            answers(next, x, "game", halves, 1, 0, 0, 0);
            answers(next, x, "game", halves, 1, 23, 0, 0);
        }
        // Of half a HOMER, half OUT with LEAD 1 and one half left: none, then one of them.
        answers(218750, x, "game", 2, 1, 24, 12, 0);
        says("the CHOICE (1; NONE: the half is over, or none is left)");
        says("0 where there is no CHOICE");
        int[][] over = {{1, 24, 12}, {5, 24, 1}, {1, 0, 0}, {5, 23, 0}, {0, 0, 12}, {0, 24, 0}, {0, 7, 1}};
        for (int[] o : over) {
            for (int lead = -9; lead <= 9; lead += 9) {
                answers(NONE, x, "game", o[0], lead, o[1], o[2], 1);
                answers(0, x, "game", o[0], lead, o[1], o[2], 2);
            }
        }
        answers(0, x, "game", 1, 0, 0, 1, 1);
    }

    private static void cappedLead() {
        says("LEAD of TEAM 0 (-9 to 9; more is 9, less is -9)");
        // TEAM 0 has 9 and makes 4 more, TEAM 1 twelve RUNS then: 13 would win.
        InningsHouse x = gameOf(0, 0);
        answers(0, x, "game", 2, 9, 7, 1, 0);
        answers(0, x, "game", 2, 9, 0, 12, 0);
        // A half with TEAM 1 behind it tells 9 from 8.
        x = gameOf(0, 2);
        int ofNine = x.game(1, 9, 0, 12, 0);
        due("WIN of LEAD 9 is above that of 8", ofNine > x.game(1, 8, 0, 12, 0) ? 1 : 0, 1);
        answers(ofNine, x, "game", 2, 9, 7, 1, 0);
        answers(ofNine, x, "game", 2, 6, 7, 1, 0);
        answers(ofNine, x, "game", 2, 5, 7, 1, 0);
        answers(ofNine, x, "game", 2, 0, 0, 12, 0);
        // TEAM 1 makes 4 more of -9, TEAM 0 twelve RUNS then: -13 would lose, and 3 must hold for one half.
        x = gameOf(0, 2);
        answers(578125, x, "game", 1, 3, 0, 12, 0);
        answers(578125, x, "game", 2, -9, 0, 12, 0);
        answers(578125, x, "game", 3, -9, 7, 1, 0);
    }

    private static void otherStrikers() {
        says("each one STRIKER, who strikes always");
        // Five halves asked of a new object, then again with other STRIKERS: nothing of the first is kept.
        InningsHouse x = gameOf(0, 1);
        answers(1000000, x, "game", 5, -1, 0, 12, 0);
        answers(0, x, "team", 0, 1);
        answers(0, x, "game", 5, -1, 0, 12, 0);
        answers(500000, x, "game", 5, 0, 0, 12, 0);
        answers(1, x, "team", 1, 0);
        answers(0, x, "game", 5, 9, 0, 12, 0);
        answers(1000, x, "train", 0, 5, 0);
        answers(1000000, x, "game", 5, 9, 0, 12, 0);
        answers(0, x, "train", 1, 5, 1000);
        answers(1000000, x, "game", 5, 0, 0, 12, 0);
    }

    private static void cutWins() {
        says("ACTS 0 to 5 by CHANCES, each WIN behind it, n - 1, all added (chances times WIN), by 1000");
        // TEAM 1 has one HOMER of 1000, of two RUNS with a man on 1: 999 * 998001 = 997002.999 thousands.
        InningsHouse x = new InningsHouse();
        x.striker(0, 0, 0, 0, 1, 0);
        x.team(0, 0);
        x.team(1, 0);
        answers(999000, x, "game", 1, 1, 17, 1, 0);
        answers(998001, x, "game", 1, 1, 9, 2, 0);
        answers(997002, x, "game", 1, 1, 1, 3, 0);
        answers(0, x, "game", 1, 1, 1, 3, 1);
        // One HOMER of 1000 for TEAM 0, none of TEAM 1: 999 * 500000 and 1000000.
        x.striker(0, 0, 0, 0, 0, 0);
        answers(0, x, "team", 1, 1);
        answers(500500, x, "game", 2, 0, 0, 1, 0);
        answers(500, x, "game", 2, -1, 0, 1, 0);
    }

    private static void choices() {
        says("of several the first of: 0 STRIKE");
        InningsHouse x = new InningsHouse();
        x.striker(0, 0, 0, 0, 0, 1000);
        x.striker(0, 0, 0, 0, 0, 0);
        x.team(0, 0);
        x.team(1, 1);
        // One man on 3 and one out: OUT leaves two out and him there, BUNT brings him home; on 1 and 3 a STEAL
        // ahead of it does no harm.
        answers(1000000, x, "game", 2, 0, 12, 5, 0);
        answers(1, x, "game", 2, 0, 12, 5, 1);
        answers(1000000, x, "game", 2, 0, 13, 2, 0);
        answers(1, x, "game", 2, 0, 13, 2, 1);
        answers(0, x, "game", 2, 0, 5, 3, 1);
        answers(0, x, "game", 2, 1, 13, 2, 1);
        says("1 BUNT (with someone on a base): WIN behind it, n - 1");
        answers(1, x, "game", 2, 0, 4, 1, 1);
        answers(0, x, "game", 2, 0, 4, 2, 1);
        answers(0, x, "game", 2, 0, 20, 12, 1);
        answers(500000, x, "game", 2, 0, 20, 12, 0);
        says("2 STEAL (with a man on 1, none on 2): STEALS times WIN behind ACT 7, and 1000 less STEALS times WIN "
            + "behind ACT 8, n - 1 both, by 1000.");
        steals();
        says("(TEAM 0: the greatest WIN, TEAM 1: the least)");
        x.team(0, 1);
        x.team(1, 0);
        answers(0, x, "game", 1, 0, 12, 5, 0);
        answers(1, x, "game", 1, 0, 12, 5, 1);
        answers(1, x, "game", 1, 0, 13, 2, 1);
        answers(500000, x, "game", 1, 1, 12, 5, 0);
    }

    /** A man on 1, two out: three SINGLES bring him home, two of them behind a STEAL. */
    private static void steals() {
        InningsHouse x = new InningsHouse();
        x.striker(0, 400, 0, 0, 0, 0);
        x.striker(0, 0, 0, 0, 0, 0);
        x.team(0, 0);
        x.team(1, 1);
        int[] steals = {0, 399, 400, 401, 1000};
        // Half of 0.16 and of STEALS is added to 500000; a STRIKE adds half of 0.064.
        int[] wins = {532000, 532000, 532000, 532080, 580000};
        for (int k = 0; k < steals.length; k++) {
            x.train(0, 6, steals[k]);
            answers(wins[k], x, "game", 2, 0, 17, 3, 0);
            answers(k >= 3 ? 2 : 0, x, "game", 2, 0, 17, 3, 1);
        }
        // With a man on 2, or none on 1, there is none; with one strike left a STEAL uses it up.
        answers(0, x, "game", 2, 0, 19, 3, 1);
        answers(0, x, "game", 2, 0, 16, 3, 1);
        answers(0, x, "game", 2, 0, 18, 3, 1);
        answers(0, x, "game", 2, 0, 17, 1, 1);
        // Cut each time: one SINGLE 666500; 333 * 666500 and 667 * 500000: 555444; 997 * 555444 and 3 * 500000: 555277.
        x.train(0, 2, 333);
        x.train(0, 6, 997);
        answers(666500, x, "game", 2, 0, 20, 1, 0);
        answers(555444, x, "game", 2, 0, 18, 2, 0);
        answers(555277, x, "game", 2, 0, 17, 3, 0);
        answers(2, x, "game", 2, 0, 17, 3, 1);
    }

    private static void walkHim() {
        says("WALK HIM: WIN behind ACT 1, n - 1: the other TEAM would, if that is better for it than WIN.");
        InningsHouse x = gameOf(0, 0);
        // A HOMER wins, a WALK does not; where the WALK drives one home it is no better.
        answers(1, x, "game", 1, 0, 0, 1, 2);
        answers(0, x, "game", 1, 0, 7, 1, 2);
        answers(1, x, "game", 1, 1, 7, 1, 2);
        answers(0, x, "game", 1, -1, 0, 1, 2);
        x = gameOf(0, 1);
        answers(1, x, "game", 2, 0, 0, 1, 2);
        answers(0, x, "game", 2, 0, 7, 1, 2);
        answers(1, x, "game", 2, -1, 7, 1, 2);
        answers(0, x, "game", 2, 1, 0, 1, 2);
        // OUT always: a WALK is the same, or worse.
        x = gameOf(1, 1);
        answers(0, x, "game", 2, 0, 0, 12, 2);
        answers(0, x, "game", 1, 0, 0, 12, 2);
        answers(0, x, "game", 2, 0, 23, 1, 2);
        answers(0, x, "game", 1, 0, 23, 1, 2);
    }

    /** A HOMER, then OUTS, BUNTS and a CAUGHT over a half's end. */
    private static final int[] ROWS = {5, 0, 1, 0, 8, 0, 6, 16, 0, 2, 17, 0, 8, 24, 0, 4, 4, 0, 6, 8, 1};

    private static void log() {
        promise("20 log");
        says("rows of an ACT (0 to 8), the STANDING behind it, RUNS: three ITEMS each of a SHEET, from STANDING 0 on, "
            + "behind 24 from 0 again.");
        InningsHouse x = new InningsHouse();
        write(x, 0, ROWS);
        int[] standings = {0, 8, 16, 17, 24, 4, 8};
        int[] runs = {1, 1, 1, 1, 1, 1, 2};
        for (int n = 1; n <= 7; n++) {
            answers(NONE, x, "log", 0, 0, n, 0);
            answers(runs[n - 1], x, "log", 0, 0, n, 1);
            answers(n >= 5 ? 1 : 0, x, "log", 0, 0, n, 2);
            answers(standings[n - 1], x, "log", 0, 0, n, 3);
        }
        says("10 to 18 how often ACT 0 to 8.");
        int[] times = {1, 0, 1, 0, 1, 1, 2, 0, 1};
        for (int act = 0; act <= 8; act++) {
            answers(times[act], x, "log", 0, 0, 7, 10 + act);
        }
        says("A LOG of n rows (1 to 20), ITEMS of a SHEET from i on: 0 the CLASH (NONE: there is none)");
        // Behind the third row it would stand otherwise: from 0 on it clashes or fits anew.
        answers(NONE, x, "log", 0, 3, 2, 0);
        answers(0, x, "log", 0, 9, 1, 0);
        answers(NONE, x, "log", 0, 15, 2, 0);
        answers(1, x, "log", 0, 15, 2, 1);
        answers(0, x, "log", 0, 18, 1, 0);
        answers(PLACE, x, "log", 0, 19, 1, 0);
        answers(PLACE, x, "log", 0, 0, 8, 0);
        twentyRows();
        clashes();
        clashBehindHalf();
    }

    private static void twentyRows() {
        InningsHouse x = new InningsHouse();
        for (int lane = 0; lane <= 2; lane++) {
            x.sheet(0, lane, 60);
            for (int row = 0; row < 20; row++) {
                x.set(0, 3 * row + 1, 8 * (row % 3 + 1));
            }
            answers(NONE, x, "log", 0, 0, 20, 0);
            answers(0, x, "log", 0, 0, 20, 1);
            answers(6, x, "log", 0, 0, 20, 2);
            answers(16, x, "log", 0, 0, 20, 3);
            answers(20, x, "log", 0, 0, 20, 10);
            answers(24, x, "log", 0, 0, 18, 3);
            answers(8, x, "log", 0, 0, 19, 3);
            answers(BAD, x, "log", 0, 0, 21, 0);
            answers(8, x, "log", 0, 54, 1, 3);
            answers(0, x, "log", 0, 57, 1, 0);
            x.set(0, 59, 1);
            answers(19, x, "log", 0, 0, 20, 0);
            answers(19, x, "log", 0, 0, 20, 10);
        }
    }

    /** The last row of ROWS, a BUNT from STANDING 4, made one that can't be; then what is told up to it. */
    private static void clashes() {
        says("A CLASH: the first row that can't be: no such ACT, one that cannot be there (STEAL, CAUGHT; BUNT may be "
            + "with nobody on, too), another STANDING, other RUNS.");
        int[][] cannot = {{-1, 8, 1}, {9, 8, 1}, {HIGH, 8, 1}, {LOW, 8, 1}, {7, 4, 0}, {7, 6, 0}, {7, NONE, NONE},
            {8, 12, 0}, {8, NONE, NONE}, {6, 0, 1}, {6, 12, 1}, {6, 24, 1}, {6, -1, 1}, {6, 8, 0}, {6, 8, 2},
            {6, 8, -1}, {0, 8, 1}, {5, 0, 1}, {NONE, NONE, NONE}};
        for (int[] row : cannot) {
            InningsHouse x = new InningsHouse();
            write(x, 0, ROWS);
            for (int k = 0; k < 3; k++) {
                x.set(0, 18 + k, row[k]);
            }
            answers(6, x, "log", 0, 0, 7, 0);
            answers(1, x, "log", 0, 0, 7, 1);
            answers(1, x, "log", 0, 0, 7, 2);
            answers(4, x, "log", 0, 0, 7, 3);
            answers(1, x, "log", 0, 0, 7, 16);
            answers(NONE, x, "log", 0, 0, 6, 0);
        }
        says("BUNT may be with nobody on, too");
        InningsHouse x = new InningsHouse();
        write(x, 0, 6, 8, 0, 6, 16, 0, 6, 24, 0, 6, 8, 0, 7, 8, 0, 6, 16, 0);
        answers(4, x, "log", 0, 0, 6, 0);
        answers(4, x, "log", 0, 0, 6, 16);
        says("Of a LOG up to its CLASH: how often each ACT, all RUNS, halves that are over");
        answers(1, x, "log", 0, 0, 6, 2);
        answers(8, x, "log", 0, 0, 6, 3);
    }

    private static void clashBehindHalf() {
        says("3 the STANDING behind all");
        InningsHouse x = new InningsHouse();
        write(x, 0, 0, 8, 0, 0, 16, 0, 0, 24, 0, 0, 24, 0);
        answers(3, x, "log", 0, 0, 4, 0);
        answers(24, x, "log", 0, 0, 4, 3);
        answers(1, x, "log", 0, 0, 4, 2);
    }

    private static void learn() {
        promise("21 learn");
        says("CHANCES of a STRIKER: times 1000 by all of them, cut; what is left goes to OUT.");
        InningsHouse x = new InningsHouse();
        // WALK, DOUBLE, HOMER: 333 each, and 1 is left though OUT never was.
        write(x, 0, 1, 1, 0, 3, 6, 0, 5, 0, 3, 0, 8, 0, 6, 16, 0, 0, 24, 0);
        answers(0, x, "learn", 0, 0, 3, 0);
        chancesAre(x, 0, 1, 333, 0, 333, 0, 333, 0);
        // With two OUTS of five, the BUNT left out: 200 each, 400.
        answers(1, x, "learn", 0, 0, 6, 1000);
        chancesAre(x, 1, 400, 200, 0, 200, 0, 200, 1000);
        answers(2, x, "learn", 0, 0, 1, 1);
        chancesAre(x, 2, 0, 1000, 0, 0, 0, 0, 1);
        answers(3, x, "learn", 0, 9, 1, 1);
        chancesAre(x, 3, 1000, 0, 0, 0, 0, 0, 1);
        says("A STRIKER with CHANCES by such a LOG, STEALS as told (0 to 1000): his number.");
        write(x, 1, 4, 4, 0, 2, 1, 1, 7, 2, 0, 6, 12, 0, 9, 9, 9);
        answers(4, x, "learn", 1, 0, 5, 999);
        chancesAre(x, 4, 0, 0, 500, 0, 500, 0, 999);
        says("STATE behind all: no ACT 0 to 5 is in it.");
        write(x, 2, 6, 8, 0, 6, 16, 0, 0, 8, 0);
        answers(STATE, x, "learn", 2, 0, 1, 0);
        answers(STATE, x, "learn", 2, 0, 3, 0);
        answers(5, x, "learn", 2, 6, 1, 0);
        learnTwenty(x);
        says("FULL: 12");
        for (int s = 7; s < 12; s++) {
            answers(s, x, "learn", 0, 0, 3, s);
        }
        answers(FULL, x, "learn", 0, 0, 3, 0);
        answers(12, x, "count", 1);
        chancesAre(x, 11, 1, 333, 0, 333, 0, 333, 11);
    }

    private static void learnTwenty(InningsHouse x) {
        x.sheet(3, 0, 60);
        for (int row = 0; row < 20; row++) {
            x.set(3, 3 * row, 5);
            x.set(3, 3 * row + 2, 1);
        }
        x.set(3, 57, 2);
        x.set(3, 58, 1);
        x.set(3, 59, 0);
        answers(6, x, "learn", 3, 0, 20, 0);
        chancesAre(x, 6, 0, 0, 50, 0, 0, 950, 0);
    }

    private static void kind() {
        promise("22 kind");
        InningsHouse x = new InningsHouse();
        says("1 SAFE, a STRIKER: OUT is 650 or less");
        x.striker(349, 0, 0, 0, 0, 0);
        answers(0, x, "kind", 0);
        x.train(0, 1, 350);
        answers(1, x, "kind", 0);
        x.train(0, 1, 1000);
        answers(1, x, "kind", 0);
        says("2 STRONG, a SAFE one: TRIPLE and HOMER are 60 or more together");
        x.striker(291, 0, 0, 59, 0, 0);
        answers(1, x, "kind", 1);
        x.train(1, 5, 1);
        answers(2, x, "kind", 1);
        x.train(1, 4, 0);
        x.train(1, 5, 59);
        answers(1, x, "kind", 1);
        x.train(1, 5, 60);
        answers(2, x, "kind", 1);
        x.train(1, 1, 289);
        answers(0, x, "kind", 1);
        says("3 QUICK, a STRIKER: STEALS is 700 or more");
        x.train(1, 6, 699);
        answers(0, x, "kind", 1);
        x.train(1, 6, 700);
        answers(3, x, "kind", 1);
        x.train(1, 6, 1000);
        answers(3, x, "kind", 1);
        says("It is told as the first that fits of STRONG, SAFE, QUICK, STRIKER: by this it is asked.");
        x.train(1, 1, 290);
        answers(2, x, "kind", 1);
        x.train(1, 5, 59);
        x.train(1, 1, 291);
        answers(1, x, "kind", 1);
        answers(BAD, x, "kind", 2);
    }

    private static void as() {
        promise("23 as");
        says("A STRIKER is taken as one of a KIND (0 .. 3): CHANCE of OUT.");
        says("it is no such one (each is a STRIKER, STRONG ones are SAFE, too)");
        InningsHouse x = withKinds();
        int[][] ones = {{651, KIND, KIND, KIND}, {641, 641, KIND, KIND}, {640, 640, 640, KIND}, {969, KIND, KIND, 969},
            {651, KIND, KIND, KIND}};
        for (int s = 0; s < ones.length; s++) {
            for (int kind = 0; kind <= 3; kind++) {
                answers(ones[s][kind], x, "as", s, kind);
            }
        }
        x.striker(200, 200, 200, 200, 200, 700);
        x.striker(0, 0, 0, 0, 0, 700);
        answers(0, x, "as", 5, 2);
        answers(KIND, x, "as", 5, 3);
        answers(1000, x, "as", 6, 3);
        answers(1000, x, "as", 6, 0);
    }

    private static void ask() {
        promise("24 ask");
        InningsHouse x = new InningsHouse();
        x.striker(0, 0, 0, 0, 0, 0);
        x.striker(1000, 0, 0, 0, 0, 1000);
        x.striker(0, 0, 0, 0, 1000, 1000);
        x.striker(0, 0, 0, 0, 349, 700);
        x.striker(0, 0, 0, 0, 1, 1000);
        says("10 lent to all STRIKERS: STEALS.");
        answers(0, x, "ask", 0, 0);
        says("11 of SAFE ones: what 10 gives, and 1000 less OUT.");
        answers(2000, x, "ask", 1, 0);
        x.train(1, 1, 350);
        answers(1350, x, "ask", 1, 0);
        says("12 of STRONG ones: what 11 gives, twice.");
        answers(4000, x, "ask", 2, 0);
        says("13 of QUICK ones: what 10 gives, less MARK.");
        answers(700 - 174, x, "ask", 3, 0);
        answers(1000, x, "ask", 4, 0);
        says("20 lent to all STRIKERS: the CHANCE of HOMER.");
        answers(0, x, "ask", 0, 1);
        says("21 of SAFE ones: what 20 gives, and 100.");
        answers(100, x, "ask", 1, 1);
        says("22 of STRONG ones: what 21 gives, and SIZE.");
        answers(5100, x, "ask", 2, 1);
        says("23 of QUICK ones: what 20 gives, by 2.");
        answers(174, x, "ask", 3, 1);
        answers(0, x, "ask", 4, 1);
        says("by this it is asked");
        x.train(1, 1, 349);
        answers(1000, x, "ask", 1, 0);
        traceIs(x, 13, 10, 23, 20);
        x.train(1, 6, 699);
        answers(699, x, "ask", 1, 0);
        traceIs(x, 10);
    }

    private static void traceIs(InningsHouse x, int... numbers) {
        for (int i = 0; i < 20; i++) {
            answers(i < numbers.length ? numbers[i] : NONE, x, "trace", i);
        }
    }

    private static void trace() {
        promise("25 trace");
        says("Number i of THE TRACE; NONE.");
        InningsHouse x = withKinds();
        traceIs(x);
        says("each of which leaves its number in THE TRACE as it begins (the first 16)");
        says("SIZE, MARK within others are asked of the same STRIKER anew.");
        int[][] traces = {{10}, {20}, {11, 10}, {21, 20}, {12, 11, 10}, {22, 21, 20, 12, 11, 10}, {13, 10, 23, 20},
            {23, 20}};
        for (int k = 0; k < traces.length; k++) {
            x.ask(k / 2, k % 2);
            traceIs(x, traces[k]);
            answers(NONE, x, "trace", -1);
            answers(NONE, x, "trace", LOW);
            answers(NONE, x, "trace", HIGH);
        }
        says("THE TRACE is empty ahead of it.");
        x = withKinds();
        x.ask(2, 1);
        x.ask(0, 0);
        traceIs(x, 10);
        says("What is refused, or found, changes nothing but status().");
        answers(BAD, x, "ask", 5, 0);
        answers(BAD, x, "ask", 0, 2);
        traceIs(x, 10);
    }

    private static void counts(InningsHouse x, int... many) {
        for (int what = 0; what < many.length; what++) {
            answers(many[what], x, "count", what);
        }
    }

    private static void count() {
        promise("26 count");
        says("How many: 0 SHEETS, 1 STRIKERS, 2 SAFE (STRONG, too), 3 STRONG, 4 QUICK ones, as they are told, "
            + "5 places of THE ORDER, 6 TEAMS with a STRIKER.");
        InningsHouse x = new InningsHouse();
        counts(x, 0, 0, 0, 0, 0, 0, 0, BAD);
        // Swift, but told as STRONG: no QUICK one.
        for (int s = 0; s < 12; s++) {
            x.striker(200, 200, 200, 200, 200, 1000);
        }
        for (int s = 0; s < 8; s++) {
            x.sheet(s, 0, s == 0 ? 9 : 0);
        }
        x.order(0, 0, 9);
        x.team(0, 0);
        x.team(1, 0);
        counts(x, 8, 12, 12, 12, 0, 9, 2, BAD);
        for (int s = 0; s < 12; s++) {
            x.train(s, 4, 0);
            x.train(s, 5, 59);
        }
        counts(x, 8, 12, 12, 0, 0, 9, 2);
        for (int s = 0; s < 12; s++) {
            x.train(s, 1, 0);
            x.train(s, 2, 0);
        }
        counts(x, 8, 12, 0, 0, 12, 9, 2);
        for (int s = 0; s < 11; s++) {
            x.train(s, 6, 699);
        }
        x.train(0, 1, 400);
        x.order(0, 8, 1);
        x.drop(7);
        counts(x, 7, 12, 1, 0, 1, 1, 2);
    }

    private static void status() {
        promise("27 status");
        says("the number of its FINDING; 0: it had none, or there was none.");
        InningsHouse x = withKinds();
        answers(0, x, "status");
        says("less 1 NULL (a SHEET that is missing), 2 PLACE (no such place of a SHEET), 3 KIND (a STRIKER that is not "
            + "that), 4 SIZE (fewer than none), 5 STORE (SHEETS of two LANES)");
        x.sheet(0, 0, 3);
        x.sheet(1, 1, 3);
        then(x, 1, "set", 2, 0, 0);
        then(x, 2, "set", 0, 3, 0);
        then(x, 3, "as", 0, 1);
        then(x, 4, "sheet", 0, 0, -1);
        then(x, 5, "copy", 0, 0, 1, 0, 1);
        says("Of the latest call with a SHEET, or as(), that was not BAD, STATE, FULL");
        int[][] fine = {{0, 2, 3}, {0, 2, 0}, {0, 0, 0, 0, 1}, {0, 0, 1}, {0, 0, 1, 0}, {2}, {2, 1}};
        String[] calls = {"sheet", "set", "copy", "order", "log", "drop", "as"};
        for (int k = 0; k < calls.length; k++) {
            x.sheet(2, 0, 1);
            then(x, 1, "drop", 7);
            then(x, 0, calls[k], fine[k]);
        }
        int[][] found = {{0, 2, -1}, {7, 0, 0}, {0, 0, 7, 0, 1}, {0, 3, 1}, {0, 1, 1, 0}, {7}, {2, 3}, {0, 1, 1, 0}};
        int[] numbers = {4, 1, 1, 2, 2, 1, 3, 2};
        String[] finders = {"sheet", "set", "copy", "order", "log", "drop", "as", "learn"};
        for (int k = 0; k < finders.length; k++) {
            then(x, 0, "as", 0, 0);
            then(x, numbers[k], finders[k], found[k]);
        }
        statusOfRefused(x);
    }

    private static void then(InningsHouse x, int status, String call, int... with) {
        called(x, call, with);
        due("status() behind " + told(call, with), x.status(), status);
    }

    private static void statusOfRefused(InningsHouse x) {
        x.set(0, 0, 11);
        then(x, 1, "drop", 7);
        // BAD behind NULL and PLACE, STATE behind all, FULL: they leave it.
        then(x, 1, "order", 0, 0, 1);
        then(x, 1, "learn", 0, 0, 1, 0);
        x.set(0, 0, 0);
        x.set(0, 1, 8);
        then(x, 1, "drop", 7);
        then(x, 0, "learn", 0, 0, 1, 0);
        then(x, 1, "drop", 7);
        for (int s = 6; s < 12; s++) {
            then(x, 1, "striker", 0, 0, 0, 0, 0, 0);
        }
        then(x, 1, "learn", 0, 0, 1, 0);
        then(x, 1, "drop", 8);
        then(x, 1, "as", 12, 0);
        then(x, 1, "as", 0, 4);
    }
}
