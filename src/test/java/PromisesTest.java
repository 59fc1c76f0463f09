/** For each promise of the document ordinary inputs, the edges it names, and wrong inputs; the answers are by hand. */
public final class PromisesTest extends Dues {
    public static void main(String[] args) {
        newObject();
        sheet();
        set();
        copy();
        drop();
        behind();
        striker();
        train();
        chance();
        order();
        striking();
        mean();
        likely();
        worth();
        rate();
        swapped();
        best();
        team();
        game();
        log();
        learn();
        kind();
        as();
        ask();
        trace();
        count();
        status();
        end();
    }

    private static void newObject() {
        promise("1 A new object");
        InningsHouse x = new InningsHouse();
        for (int what = 0; what <= 6; what++) {
            due("count(" + what + ")", x.count(what), 0);
        }
        for (int s = 0; s < 8; s++) {
            due("drop(" + s + ")", x.drop(s), NULL);
        }
        due("striking(NONE)", x.striking(NONE), 0);
        due("chance(0, 0)", x.chance(0, 0), BAD);
        due("NONE", InningsHouse.NONE, NONE);
        due("BAD", InningsHouse.BAD, BAD);
        due("STATE", InningsHouse.STATE, STATE);
        due("FULL", InningsHouse.FULL, FULL);
        InningsHouse other = new InningsHouse();
        other.sheet(0, 0, 3);
        other.striker(0, 0, 0, 0, 0, 0);
        InningsHouse third = new InningsHouse();
        due("count(0) of another object", third.count(0), 0);
        due("count(1) of another object", third.count(1), 0);
    }

    private static void sheet() {
        promise("2 sheet");
        InningsHouse x = new InningsHouse();
        due("sheet(0, 0, 0)", x.sheet(0, 0, 0), 0);
        due("sheet(7, 2, 60)", x.sheet(7, 2, 60), 60);
        due("sheet(7, 2, 61)", x.sheet(7, 2, 61), BAD);
        due("sheet(-1, 0, 1)", x.sheet(-1, 0, 1), BAD);
        due("sheet(8, 0, 1)", x.sheet(8, 0, 1), BAD);
        due("sheet(0, -1, 1)", x.sheet(0, -1, 1), BAD);
        due("sheet(0, 3, 1)", x.sheet(0, 3, 1), BAD);
        due("sheet(8, 0, -1)", x.sheet(8, 0, -1), BAD);
        due("sheet(0, 3, -1)", x.sheet(0, 3, -1), BAD);
        due("sheet(0, 0, LOW)", x.sheet(0, 0, LOW), SIZE);
        due("sheet(0, 0, HIGH)", x.sheet(0, 0, HIGH), BAD);
        due("set(7, 59, 5)", x.set(7, 59, 5), 5);
        due("sheet(7, 0, -1) changes nothing", x.sheet(7, 0, -1), SIZE);
        due("set(7, 58, 70000)", x.set(7, 58, 70000), 70000);
        due("sheet(7, 2, 60) anew", x.sheet(7, 2, 60), 60);
        x.striker(0, 0, 0, 0, 0, 0);
        due("order(7, 58, 2) finds 0 again", x.order(7, 58, 2), 2);
        due("sheet(7, 1, 2) in its place", x.sheet(7, 1, 2), 2);
        due("set(7, 2, 1)", x.set(7, 2, 1), PLACE);
        due("drop(7)", x.drop(7), 2);
    }

    private static void set() {
        promise("3 set");
        InningsHouse x = new InningsHouse();
        due("set(0, 0, 1)", x.set(0, 0, 1), NULL);
        x.sheet(0, 0, 2);
        x.sheet(1, 1, 2);
        x.sheet(2, 2, 2);
        due("bytes 127", x.set(0, 0, 127), 127);
        due("bytes 128", x.set(0, 0, 128), -128);
        due("bytes 256", x.set(0, 0, 256), 0);
        due("bytes -129", x.set(0, 0, -129), 127);
        due("shorts 32767", x.set(1, 1, 32767), 32767);
        due("shorts 32768", x.set(1, 1, 32768), -32768);
        due("shorts 65537", x.set(1, 1, 65537), 1);
        due("ints HIGH", x.set(2, 1, HIGH), HIGH);
        due("ints LOW", x.set(2, 1, LOW), LOW);
        due("set(0, 2, 0)", x.set(0, 2, 0), PLACE);
        due("set(0, -1, 0)", x.set(0, -1, 0), PLACE);
        due("set(0, HIGH, 0)", x.set(0, HIGH, 0), PLACE);
        due("set(0, LOW, 0)", x.set(0, LOW, 0), PLACE);
        due("set(-1, 0, 0)", x.set(-1, 0, 0), BAD);
        due("set(8, 0, 0)", x.set(8, 0, 0), BAD);
        x.sheet(3, 0, 0);
        due("set of an empty SHEET", x.set(3, 0, 0), PLACE);
    }

    private static void copy() {
        promise("4 copy");
        InningsHouse x = new InningsHouse();
        for (int s = 0; s < 5; s++) {
            x.striker(s, 0, 0, 0, 0, 0);
        }
        write(x, 0, 0, 1, 2, 3, 4);
        due("copy(0, 0, 0, 1, 4)", x.copy(0, 0, 0, 1, 4), 4);
        due("order(0, 0, 5)", x.order(0, 0, 5), 5);
        for (int p = 0; p < 5; p++) {
            due("striking(" + p + ") as they were ahead", x.striking(p), p == 0 ? 0 : p - 1);
        }
        write(x, 1, 0, 1, 2, 3, 4);
        due("copy(1, 1, 1, 0, 4)", x.copy(1, 1, 1, 0, 4), 4);
        due("order(1, 0, 5)", x.order(1, 0, 5), 5);
        for (int p = 0; p < 5; p++) {
            due("striking(" + p + ") down", x.striking(p), p == 4 ? 4 : p + 1);
        }
        x.sheet(2, 2, 3);
        due("copy(1, 2, 2, 1, 2)", x.copy(1, 2, 2, 1, 2), 2);
        due("order(2, 0, 3)", x.order(2, 0, 3), 3);
        due("striking(0)", x.striking(0), 0);
        due("striking(1)", x.striking(1), 3);
        due("striking(2)", x.striking(2), 4);
        due("copy(1, 5, 2, 3, 0) at both ends", x.copy(1, 5, 2, 3, 0), 0);
        due("copy(1, 6, 2, 0, 0)", x.copy(1, 6, 2, 0, 0), PLACE);
        due("copy(1, 0, 2, 4, 0)", x.copy(1, 0, 2, 4, 0), PLACE);
        due("copy(1, 0, 2, 0, 4)", x.copy(1, 0, 2, 0, 4), PLACE);
        due("copy(1, 3, 2, 0, 3)", x.copy(1, 3, 2, 0, 3), PLACE);
        due("copy(1, -1, 2, 0, 1)", x.copy(1, -1, 2, 0, 1), PLACE);
        due("copy(1, 0, 2, -1, 1)", x.copy(1, 0, 2, -1, 1), PLACE);
        due("copy(1, 0, 2, 0, -1)", x.copy(1, 0, 2, 0, -1), PLACE);
        due("copy(1, HIGH, 2, HIGH, HIGH)", x.copy(1, HIGH, 2, HIGH, HIGH), PLACE);
        due("copy(1, 1, 2, 1, HIGH)", x.copy(1, 1, 2, 1, HIGH), PLACE);
        due("copy(1, LOW, 2, LOW, LOW)", x.copy(1, LOW, 2, LOW, LOW), PLACE);
        x.sheet(3, 1, 3);
        due("STORE ahead of PLACE", x.copy(1, -1, 3, 0, 1), STORE);
        due("STORE with none", x.copy(1, 0, 3, 0, 0), STORE);
        due("NULL of a", x.copy(4, 0, 1, 0, 1), NULL);
        due("NULL of b ahead of PLACE", x.copy(1, -1, 4, 0, 1), NULL);
        due("BAD a", x.copy(8, 0, 1, 0, 1), BAD);
        due("BAD b ahead of NULL", x.copy(4, 0, -1, 0, 1), BAD);
    }

    private static void drop() {
        promise("5 drop");
        InningsHouse x = new InningsHouse();
        x.sheet(3, 1, 17);
        due("drop(3)", x.drop(3), 17);
        due("drop(3) again", x.drop(3), NULL);
        due("set(3, 0, 0)", x.set(3, 0, 0), NULL);
        due("drop(-1)", x.drop(-1), BAD);
        due("drop(8)", x.drop(8), BAD);
        x.sheet(3, 1, 0);
        due("drop of an empty one", x.drop(3), 0);
        due("count(0)", x.count(0), 0);
    }

    private static void behind() {
        promise("6 behind");
        InningsHouse x = new InningsHouse();
        // Men 0 .. 7: the men behind each ACT 0 to 8 with nobody out, -1 where it cannot be, then RUNS.
        int[][] men = {{0, 1, 2, 3, 4, 5, 6, 7}, {1, 3, 3, 7, 5, 7, 7, 7}, {1, 3, 5, 7, 1, 3, 5, 7},
            {2, 6, 2, 6, 2, 6, 2, 6}, {4, 4, 4, 4, 4, 4, 4, 4}, {0, 0, 0, 0, 0, 0, 0, 0}, {0, 2, 4, 6, 0, 2, 4, 6},
            {-1, 2, -1, -1, -1, 6, -1, -1}, {-1, 0, -1, -1, -1, 4, -1, -1}};
        int[][] runs = {{0, 0, 0, 0, 0, 0, 0, 0}, {0, 0, 0, 0, 0, 0, 0, 1}, {0, 0, 0, 0, 1, 1, 1, 1},
            {0, 0, 1, 1, 1, 1, 2, 2}, {0, 1, 1, 2, 1, 2, 2, 3}, {1, 2, 2, 3, 2, 3, 3, 4}, {0, 0, 0, 0, 1, 1, 1, 1},
            {0, 0, 0, 0, 0, 0, 0, 0}, {0, 0, 0, 0, 0, 0, 0, 0}};
        for (int standing = 0; standing < 24; standing++) {
            for (int act = 0; act <= 8; act++) {
                int m = standing % 8;
                int outs = standing / 8 + (act == 0 || act == 6 || act == 8 ? 1 : 0);
                boolean can = men[act][m] >= 0;
                int after = !can ? NONE : outs == 3 ? 24 : outs * 8 + men[act][m];
                int home = !can ? NONE : outs == 3 ? 0 : runs[act][m];
                due("behind(" + standing + ", " + act + ", 0)", x.behind(standing, act, 0), after);
                due("behind(" + standing + ", " + act + ", 1)", x.behind(standing, act, 1), home);
            }
        }
        due("behind(-1, 0, 0)", x.behind(-1, 0, 0), BAD);
        due("behind(24, 0, 0)", x.behind(24, 0, 0), BAD);
        due("behind(0, -1, 0)", x.behind(0, -1, 0), BAD);
        due("behind(0, 9, 0)", x.behind(0, 9, 0), BAD);
        due("behind(0, 7, 2): BAD ahead of NONE", x.behind(0, 7, 2), BAD);
        due("behind(0, 0, -1)", x.behind(0, 0, -1), BAD);
        due("behind(LOW, HIGH, LOW)", x.behind(LOW, HIGH, LOW), BAD);
    }

    private static void striker() {
        promise("7 striker");
        InningsHouse x = new InningsHouse();
        due("striker of all that is", x.striker(200, 200, 200, 200, 200, 1000), 0);
        due("chance(0, 0)", x.chance(0, 0), 0);
        due("striker of nothing", x.striker(0, 0, 0, 0, 0, 0), 1);
        due("chance(1, 0)", x.chance(1, 0), 1000);
        due("above 1000 together", x.striker(200, 200, 200, 200, 201, 0), BAD);
        due("above 1000 alone", x.striker(0, 1001, 0, 0, 0, 0), BAD);
        due("HIGH twice", x.striker(HIGH, HIGH, 0, 0, 0, 0), BAD);
        due("walk -1", x.striker(-1, 0, 0, 0, 0, 0), BAD);
        due("single -1", x.striker(5, -1, 0, 0, 0, 0), BAD);
        due("two -1", x.striker(5, 0, -1, 0, 0, 0), BAD);
        due("three -1", x.striker(5, 0, 0, -1, 0, 0), BAD);
        due("homer -1", x.striker(5, 0, 0, 0, -1, 0), BAD);
        due("steals -1", x.striker(5, 0, 0, 0, 0, -1), BAD);
        due("steals 1001", x.striker(5, 0, 0, 0, 0, 1001), BAD);
        for (int s = 2; s < 12; s++) {
            due("striker " + s, x.striker(1, 2, 3, 4, 5, 6), s);
        }
        due("the 13th", x.striker(1, 2, 3, 4, 5, 6), FULL);
        due("BAD ahead of FULL", x.striker(1, 2, 3, 4, 5, 1001), BAD);
        due("BAD together ahead of FULL", x.striker(1000, 1, 0, 0, 0, 0), BAD);
        due("count(1)", x.count(1), 12);
        for (int act = 0; act <= 6; act++) {
            due("chance(11, " + act + ")", x.chance(11, act), act == 0 ? 985 : act);
        }
    }

    private static void train() {
        promise("8 train");
        InningsHouse x = new InningsHouse();
        x.striker(100, 200, 50, 10, 40, 300);
        due("train(0, 1, 150)", x.train(0, 1, 150), 100);
        due("chance(0, 0)", x.chance(0, 0), 550);
        due("train(0, 5, 590)", x.train(0, 5, 590), 40);
        due("chance(0, 0) none left", x.chance(0, 0), 0);
        due("train(0, 2, 201)", x.train(0, 2, 201), STATE);
        due("chance(0, 2)", x.chance(0, 2), 200);
        due("chance(0, 0) still", x.chance(0, 0), 0);
        due("train(0, 2, 200)", x.train(0, 2, 200), 200);
        due("train(0, 5, 0)", x.train(0, 5, 0), 590);
        due("chance(0, 0) back", x.chance(0, 0), 590);
        due("train(0, 6, 1000)", x.train(0, 6, 1000), 300);
        due("train(0, 6, 0)", x.train(0, 6, 0), 1000);
        due("chance(0, 6)", x.chance(0, 6), 0);
        due("train(0, 0, 5)", x.train(0, 0, 5), BAD);
        due("train(0, 7, 5)", x.train(0, 7, 5), BAD);
        due("train(0, 1, -1)", x.train(0, 1, -1), BAD);
        due("train(0, 1, 1001)", x.train(0, 1, 1001), BAD);
        due("train(0, 6, 1001)", x.train(0, 6, 1001), BAD);
        due("train(1, 1, 5)", x.train(1, 1, 5), BAD);
        due("train(-1, 1, 5)", x.train(-1, 1, 5), BAD);
        due("train(0, 1, LOW)", x.train(0, 1, LOW), BAD);
        orderOf(x, 0);
        int before = x.mean(0, 0, 30);
        x.train(0, 5, 500);
        due("MEAN follows", x.mean(0, 0, 30) > before ? 1 : 0, 1);
    }

    private static void chance() {
        promise("9 chance");
        InningsHouse x = new InningsHouse();
        x.striker(1, 20, 300, 4, 50, 66);
        int[] want = {625, 1, 20, 300, 4, 50, 66};
        for (int act = 0; act <= 6; act++) {
            due("chance(0, " + act + ")", x.chance(0, act), want[act]);
        }
        due("chance(0, 7)", x.chance(0, 7), BAD);
        due("chance(0, -1)", x.chance(0, -1), BAD);
        due("chance(1, 0)", x.chance(1, 0), BAD);
        due("chance(-1, 0)", x.chance(-1, 0), BAD);
        due("chance(NONE, 0)", x.chance(NONE, 0), BAD);
    }

    private static void order() {
        promise("10 order");
        InningsHouse x = new InningsHouse();
        x.striker(0, 0, 0, 0, 0, 0);
        x.striker(0, 0, 0, 0, 0, 0);
        write(x, 0, 1, 0, 1, 1, 0, 0, 1, 1, 1, 2);
        due("order(0, 0, 9)", x.order(0, 0, 9), 9);
        due("striking(8)", x.striking(8), 1);
        due("order(0, 1, 9): no STRIKER 2", x.order(0, 1, 9), BAD);
        due("striking(0) is as it was", x.striking(0), 1);
        due("order(0, 0, 10)", x.order(0, 0, 10), BAD);
        due("order(0, 0, 0)", x.order(0, 0, 0), BAD);
        due("order(0, 1, 1)", x.order(0, 1, 1), 1);
        due("striking(0)", x.striking(0), 0);
        due("striking(NONE)", x.striking(NONE), 1);
        x.set(0, 1, 1);
        due("THE ORDER stays when the SHEET changes", x.striking(0), 0);
        due("order(0, 10, 1)", x.order(0, 10, 1), PLACE);
        due("order(0, -1, 1)", x.order(0, -1, 1), PLACE);
        due("order(0, HIGH, 9)", x.order(0, HIGH, 9), PLACE);
        due("order(1, -1, 1)", x.order(1, -1, 1), NULL);
        due("order(8, 0, 1)", x.order(8, 0, 1), BAD);
        due("order(-1, 0, 1)", x.order(-1, 0, 1), BAD);
        due("order(1, 0, 10): BAD ahead of NULL", x.order(1, 0, 10), BAD);
        x.set(0, 0, -1);
        due("a STRIKER below 0", x.order(0, 0, 1), BAD);
        due("PLACE ahead of no such STRIKER", x.order(0, 9, 2), PLACE);
    }

    private static void striking() {
        promise("11 striking");
        InningsHouse x = new InningsHouse();
        due("striking(NONE)", x.striking(NONE), 0);
        due("striking(0)", x.striking(0), BAD);
        x.striker(0, 0, 0, 0, 0, 0);
        x.striker(0, 0, 0, 0, 0, 0);
        orderOf(x, 1, 0, 1);
        due("striking(0)", x.striking(0), 1);
        due("striking(1)", x.striking(1), 0);
        due("striking(2)", x.striking(2), 1);
        due("striking(3)", x.striking(3), BAD);
        due("striking(-1)", x.striking(-1), BAD);
        due("striking(NONE)", x.striking(NONE), 3);
        due("striking(BAD)", x.striking(BAD), BAD);
    }

    private static void mean() {
        promise("12 mean");
        InningsHouse x = withFour();
        due("no ORDER", x.mean(0, 0, 0), BAD);
        orderOf(x, 0);
        due("a HOMER each strike", x.mean(0, 0, 30), 30000000);
        due("with men on", x.mean(7, 0, 30), 33000000);
        due("n 0", x.mean(7, 0, 0), 0);
        due("over", x.mean(24, 0, 30), 0);
        orderOf(x, 2);
        due("one strike", x.mean(0, 0, 1), 500000);
        due("two strikes", x.mean(0, 0, 2), 1000000);
        due("two out, two strikes", x.mean(16, 0, 2), 750000);
        orderOf(x, 0, 1);
        due("HOMER, OUT, HOMER, OUT, HOMER, OUT", x.mean(0, 0, 30), 3000000);
        due("OUT, HOMER, OUT, HOMER, OUT", x.mean(0, 1, 30), 2000000);
        due("two strikes from 1", x.mean(0, 1, 2), 1000000);
        orderOf(x, 3);
        due("walks", x.mean(0, 0, 5), 2000000);
        x.striker(0, 0, 0, 0, 333, 0);
        orderOf(x, 4, 4, 4);
        // 333000; then (333 * 1333000 + 667 * 333000) / 1000 = 666000; then by thousands 998 999.
        due("two strikes of 333", x.mean(0, 0, 2), 666000);
        // One out less each time: 333 * (1000000 + 333000) of two out, 443 889.
        due("two out, two strikes of 333", x.mean(16, 0, 2), 443889);
        // 333 * (1000000 + 443889) = 480815037, cut.
        due("cut towards 0", x.mean(16, 0, 3), 480815);
        due("BAD STANDING", x.mean(25, 0, 1), BAD);
        due("BAD STANDING -1", x.mean(-1, 0, 1), BAD);
        due("BAD place", x.mean(0, 3, 1), BAD);
        due("BAD place -1", x.mean(0, -1, 1), BAD);
        due("BAD n", x.mean(0, 0, 31), BAD);
        due("BAD n -1", x.mean(0, 0, -1), BAD);
        due("BAD though over", x.mean(24, 0, 31), BAD);
    }

    private static void likely() {
        promise("13 likely");
        InningsHouse x = withFour();
        due("no ORDER", x.likely(0, 0, 0, 0), BAD);
        orderOf(x, 2);
        due("0 of one", x.likely(0, 0, 1, 0), 500000);
        due("1 of one", x.likely(0, 0, 1, 1), 500000);
        due("2 of one", x.likely(0, 0, 1, 2), 0);
        due("4 with men on", x.likely(7, 0, 1, 4), 500000);
        due("1 of two", x.likely(0, 0, 2, 1), 500000);
        due("1 of two with two out", x.likely(16, 0, 2, 1), 250000);
        due("0 of 30 with two out", x.likely(16, 0, 30, 0), 500000);
        orderOf(x, 0);
        due("just 8 of 8", x.likely(0, 0, 8, 8), 1000000);
        due("9 or more of 8", x.likely(0, 0, 8, 9), 0);
        due("9 or more of 9", x.likely(0, 0, 9, 9), 1000000);
        due("9 or more of 30", x.likely(0, 0, 30, 9), 1000000);
        due("just 8 of 9", x.likely(0, 0, 9, 8), 0);
        due("9 or more with men on: 4 and 5", x.likely(7, 0, 6, 9), 1000000);
        due("9 or more with men on: 4 and 4", x.likely(7, 0, 5, 9), 0);
        for (int r = 0; r <= 9; r++) {
            due("over, " + r, x.likely(24, 0, 30, r), r == 0 ? 1000000 : 0);
            due("n 0, " + r, x.likely(7, 0, 0, r), r == 0 ? 1000000 : 0);
        }
        x.striker(0, 0, 0, 0, 333, 0);
        orderOf(x, 4);
        // Of 9 or more with two out: 333 of 1000 nine times over, cut each time:
        // 333000, 110889, 36926, 12296, 4094, 1363, 453, 150, 49.
        due("9 or more, cut each time", x.likely(16, 0, 9, 9), 49);
        // 9 or more of 10 with two out: the tenth strike changes nothing that counts.
        due("9 or more of 10", x.likely(16, 0, 10, 9), 49);
        x.striker(0, 0, 0, 0, 999, 0);
        orderOf(x, 5);
        // 999 * 998001 = 997002999, cut.
        due("cut towards 0", x.likely(16, 0, 3, 3), 997002);
        due("BAD r", x.likely(0, 0, 1, 10), BAD);
        due("BAD r -1", x.likely(0, 0, 1, -1), BAD);
        due("BAD STANDING", x.likely(25, 0, 1, 0), BAD);
        due("BAD STANDING -1", x.likely(-1, 0, 1, 0), BAD);
        due("BAD place", x.likely(0, 1, 1, 0), BAD);
        due("BAD n", x.likely(0, 0, 31, 0), BAD);
        due("BAD n -1", x.likely(0, 0, -1, 0), BAD);
    }

    private static void worth() {
        promise("14 worth");
        InningsHouse x = withFour();
        due("no ORDER", x.worth(0, 0, 0, 1), BAD);
        orderOf(x, 2, 1);
        due("HOMER in one", x.worth(0, 5, 0, 1), 500000);
        due("OUT in one", x.worth(0, 0, 0, 1), -500000);
        due("the next place strikes behind", x.worth(0, 1, 1, 2), 1000000 - 500000);
        due("OUT, the next place", x.worth(0, 0, 1, 2), 0);
        due("BUNT with a man on 3", x.worth(4, 6, 1, 1), 1000000);
        due("BUNT that is the third out", x.worth(20, 6, 0, 1), -1000000);
        due("BUNT with nobody on", x.worth(0, 6, 0, 1), -500000);
        due("STANDING 24", x.worth(24, 0, 0, 1), BAD);
        due("STANDING -1", x.worth(-1, 0, 0, 1), BAD);
        due("ACT 7", x.worth(1, 7, 0, 1), BAD);
        due("ACT -1", x.worth(1, -1, 0, 1), BAD);
        due("place 2", x.worth(0, 0, 2, 1), BAD);
        due("place -1", x.worth(0, 0, -1, 1), BAD);
        due("n 0", x.worth(0, 0, 0, 0), BAD);
        due("n 31", x.worth(0, 0, 0, 31), BAD);
        due("n 30", x.worth(23, 0, 1, 30), 0);
    }

    private static void rate() {
        promise("15 rate");
        InningsHouse x = withFour();
        due("no ORDER", x.rate(), STATE);
        orderOf(x, 0);
        due("one place: twice", x.rate(), 60000000);
        orderOf(x, 0, 1);
        due("two places", x.rate(), 5000000);
        orderOf(x, 0, 1, 1);
        // From 0: H O O H O; from 1: O O H O.
        due("three places: half is 1", x.rate(), 3000000);
        orderOf(x, 0, 0, 1, 1);
        // From 0: H H O O H H O; from 2: O O H H O.
        due("four places: half is 2", x.rate(), 6000000);
        orderOf(x, 1, 1, 1, 0, 0);
        // From 0: O O O; from 2: O H H O O.
        due("five places: half is 2", x.rate(), 2000000);
    }

    private static void swapped() {
        promise("16 swapped");
        InningsHouse x = withFour();
        due("no ORDER", x.swapped(), STATE);
        orderOf(x, 2);
        due("one place", x.swapped(), 0);
        orderOf(x, 1, 1, 0);
        // O O H O and O H O: 2; exchanging 0 and 1 changes nothing; 0 and 2: H O O H O, O O H O: 3;
        // then 0 and 1: O H O O, H O O H O: 3; 0 and 2: 2; 1 and 2: none.
        due("rate() ahead", x.rate(), 2000000);
        due("the first that is better", x.swapped(), 1);
        due("striking(0)", x.striking(0), 0);
        due("striking(1)", x.striking(1), 1);
        due("striking(2)", x.striking(2), 1);
        due("rate()", x.rate(), 3000000);
        due("again", x.swapped(), 0);
        orderOf(x, 1, 1, 1, 0, 0);
        int before = x.rate();
        int many = x.swapped();
        due("RATE is more", x.rate() > before && many > 0 ? 1 : 0, 1);
        due("none is left", x.swapped(), 0);
        swappedFortyTimes();
    }

    /** An order from which 44 exchanges are to come: 40 are made, the others by the next call. */
    private static void swappedFortyTimes() {
        int[][] nine = {{20, 116, 13, 55, 113}, {26, 94, 100, 58, 98}, {122, 23, 101, 84, 103}, {36, 54, 113, 54, 100},
            {9, 32, 16, 60, 45}, {12, 41, 32, 21, 10}, {6, 11, 4, 18, 14}, {63, 58, 18, 108, 145}, {82, 72, 39, 67, 36}};
        InningsHouse x = new InningsHouse();
        for (int[] c : nine) {
            x.striker(c[0], c[1], c[2], c[3], c[4], 0);
        }
        orderOf(x, 8, 3, 1, 0, 4, 6, 5, 7, 2);
        due("40 and no more", x.swapped(), 40);
        due("the others", x.swapped(), 4);
        due("none is left", x.swapped(), 0);
    }

    private static void best() {
        promise("17 best");
        InningsHouse x = withFour();
        due("no ORDER", x.best(), STATE);
        orderOf(x, 2);
        due("one place", x.best(), x.rate());
        orderOf(x, 1, 0);
        due("RATE", x.best(), 5000000);
        due("of two alike the first as a row", x.striking(0), 0);
        due("of two alike the first as a row, 1", x.striking(1), 1);
        orderOf(x, 1, 1, 0);
        // 0 1 1: 3; 1 0 1: O H O O and H O O H O: 3; 1 1 0: 2.
        due("RATE of three", x.best(), 3000000);
        due("striking(0)", x.striking(0), 0);
        due("striking(1)", x.striking(1), 1);
        due("striking(2)", x.striking(2), 1);
        orderOf(x, 1, 0, 1, 0, 1, 1);
        int most = x.best();
        due("rate()", x.rate(), most);
        due("striking(NONE)", x.striking(NONE), 6);
        orderOf(x, 0, 1, 0, 1, 0, 1, 0);
        due("seven places", x.best(), STATE);
        due("seven places stay", x.striking(6), 0);
        due("striking(5) stays", x.striking(5), 1);
    }

    private static void team() {
        promise("18 team");
        InningsHouse x = withFour();
        due("team(0, 3)", x.team(0, 3), NONE);
        due("team(0, 2)", x.team(0, 2), 3);
        due("team(1, 2)", x.team(1, 2), NONE);
        due("team(1, 0)", x.team(1, 0), 2);
        due("team(2, 0)", x.team(2, 0), BAD);
        due("team(-1, 0)", x.team(-1, 0), BAD);
        due("team(0, 4)", x.team(0, 4), BAD);
        due("team(0, -1)", x.team(0, -1), BAD);
        due("team(0, NONE)", x.team(0, NONE), BAD);
        due("team(0, 2) is as it was", x.team(0, 2), 2);
    }

    private static void game() {
        promise("19 game");
        InningsHouse x = withFour();
        due("no TEAM", x.game(0, 0, 0, 0, 0), STATE);
        x.team(0, 1);
        due("one TEAM", x.game(0, 0, 0, 0, 0), STATE);
        due("BAD ahead of STATE", x.game(6, 0, 0, 0, 0), BAD);
        x.team(1, 1);
        due("nobody runs", x.game(5, 0, 0, 12, 0), 500000);
        due("LEAD 1", x.game(5, 1, 0, 12, 0), 1000000);
        due("LEAD -1", x.game(5, -1, 0, 12, 0), 0);
        due("of equals the first", x.game(5, 0, 1, 12, 1), 0);
        due("BUNT brings one home for TEAM 0", x.game(2, 0, 4, 1, 0), 1000000);
        due("BUNT is the CHOICE", x.game(2, 0, 4, 1, 1), 1);
        due("BUNT for TEAM 1", x.game(1, 0, 4, 1, 0), 0);
        due("BUNT with two out is none better", x.game(1, 0, 20, 1, 1), 0);
        due("no HALF left, LEAD 0", x.game(0, 0, 7, 12, 0), 500000);
        due("no HALF left, LEAD 1", x.game(0, 1, 7, 12, 0), 1000000);
        due("no HALF left, LEAD -1", x.game(0, -1, 7, 12, 0), 0);
        due("no HALF left: no CHOICE", x.game(0, 0, 7, 12, 1), NONE);
        due("no HALF left: no WALK", x.game(0, 0, 7, 12, 2), 0);
        due("over: no CHOICE", x.game(1, 0, 24, 12, 1), NONE);
        due("n 0: no CHOICE", x.game(1, 0, 7, 0, 1), NONE);
        due("n 0: no WALK", x.game(1, 0, 7, 0, 2), 0);
        due("n 0: WIN of the next half", x.game(1, 0, 7, 0, 0), 500000);
        gameWithRuns();
        gameWithSteals();
        gameWrong();
    }

    private static void gameWithRuns() {
        InningsHouse x = withFour();
        x.team(0, 0);
        x.team(1, 0);
        // TEAM 1 strikes twelve HOMERS in the last half: LEAD ends at -9.
        due("one HALF", x.game(1, 9, 0, 12, 0), 0);
        due("nine strikes of LEAD 9", x.game(1, 9, 0, 9, 0), 500000);
        due("eight strikes of LEAD 9", x.game(1, 9, 0, 8, 0), 1000000);
        // LEAD is 9 at most, however many runs TEAM 0 makes: twelve strikes take it all.
        due("two HALVES", x.game(2, 9, 0, 12, 0), 0);
        due("no WALK where nothing is better", x.game(1, 9, 0, 12, 2), 0);
        // One strike left for LEAD 0 and a WALK instead of a HOMER.
        due("WIN", x.game(1, 0, 0, 1, 0), 0);
        due("TEAM 0 would walk him", x.game(1, 0, 0, 1, 2), 1);
        x.team(1, 1);
        due("TEAM 0 strikes, TEAM 1 does not", x.game(2, -1, 0, 2, 0), 1000000);
        due("one strike", x.game(2, -1, 0, 1, 0), 500000);
        due("TEAM 1 would walk him", x.game(2, -1, 0, 1, 2), 1);
        x.train(1, 5, 1000);
        due("train() is seen", x.game(2, -1, 0, 1, 0), 0);
        x.train(1, 5, 0);
        due("train() back", x.game(2, -1, 0, 1, 0), 500000);
        due("team() ahead", x.team(1, 0), 1);
        due("team() is seen", x.game(2, -1, 0, 1, 0), 0);
    }

    private static void gameWithSteals() {
        InningsHouse x = new InningsHouse();
        x.striker(0, 400, 0, 0, 0, 900);
        x.striker(0, 0, 0, 0, 0, 0);
        x.team(0, 0);
        x.team(1, 1);
        // A man on 1, two out, LEAD 0: singles alone bring him home only in threes, two behind a STEAL.
        due("STEAL with two strikes left is vain", x.game(2, 0, 17, 2, 1), 0);
        // Three strikes: STRIKE all: 0.4^3 = 64000 of a million go from a half to a whole: 532000.
        // STEAL 0.9, then two singles 0.16: 144000 of a million: 572000.
        due("WIN by STEAL", x.game(2, 0, 17, 3, 0), 572000);
        due("STEAL", x.game(2, 0, 17, 3, 1), 2);
        due("no STEAL with a man on 2", x.game(2, 0, 19, 3, 1), 0);
        x.train(0, 6, 300);
        // 0.3 * 0.16 = 48000: less than STRIKE.
        due("WIN by STRIKE", x.game(2, 0, 17, 3, 0), 532000);
        due("STRIKE", x.game(2, 0, 17, 3, 1), 0);
        x.train(0, 6, 400);
        due("of equals STRIKE", x.game(2, 0, 17, 3, 1), 0);
        x.train(0, 6, 900);
        x.team(0, 1);
        x.team(1, 0);
        due("TEAM 1: the least WIN", x.game(1, 0, 17, 3, 0), 428000);
        due("TEAM 1: STEAL", x.game(1, 0, 17, 3, 1), 2);
    }

    private static void gameWrong() {
        InningsHouse x = withFour();
        x.team(0, 0);
        x.team(1, 0);
        due("HALVES 6", x.game(6, 0, 0, 0, 0), BAD);
        due("HALVES -1", x.game(-1, 0, 0, 0, 0), BAD);
        due("LEAD 10", x.game(0, 10, 0, 0, 0), BAD);
        due("LEAD -10", x.game(0, -10, 0, 0, 0), BAD);
        due("STANDING 25", x.game(0, 0, 25, 0, 0), BAD);
        due("STANDING -1", x.game(0, 0, -1, 0, 0), BAD);
        due("n 13", x.game(0, 0, 0, 13, 0), BAD);
        due("n -1", x.game(0, 0, 0, -1, 0), BAD);
        due("what 3", x.game(0, 0, 0, 0, 3), BAD);
        due("what -1", x.game(0, 0, 0, 0, -1), BAD);
    }

    /** Two SINGLES, a HOMER of three, three OUTS, a WALK: seven rows. */
    private static final int[] ROWS = {2, 1, 0, 2, 3, 0, 5, 0, 3, 0, 8, 0, 0, 16, 0, 0, 24, 0, 1, 1, 0};

    private static void log() {
        promise("20 log");
        InningsHouse x = new InningsHouse();
        write(x, 0, ROWS);
        due("no CLASH", x.log(0, 0, 7, 0), NONE);
        due("RUNS", x.log(0, 0, 7, 1), 3);
        due("halves", x.log(0, 0, 7, 2), 1);
        due("STANDING", x.log(0, 0, 7, 3), 1);
        int[] times = {3, 1, 2, 0, 0, 1, 0, 0, 0};
        for (int act = 0; act <= 8; act++) {
            due("how often " + act, x.log(0, 0, 7, 10 + act), times[act]);
        }
        due("six rows end at 24", x.log(0, 0, 6, 3), 24);
        due("one row", x.log(0, 0, 1, 3), 1);
        due("from the last row on", x.log(0, 18, 1, 3), 1);
        logClashes(x);
        due("what 4", x.log(0, 0, 1, 4), BAD);
        due("what -1", x.log(0, 0, 1, -1), BAD);
        due("what 9", x.log(0, 0, 1, 9), BAD);
        due("what 19", x.log(0, 0, 1, 19), BAD);
        due("n 0", x.log(0, 0, 0, 0), BAD);
        due("n 21", x.log(0, 0, 21, 0), BAD);
        due("n 8", x.log(0, 0, 8, 0), PLACE);
        due("i 1", x.log(0, 1, 7, 0), PLACE);
        due("i -1", x.log(0, -1, 1, 0), PLACE);
        due("i HIGH", x.log(0, HIGH, 20, 0), PLACE);
        due("NULL", x.log(1, -1, 1, 0), NULL);
        due("SHEET 8", x.log(8, 0, 1, 0), BAD);
        due("BAD ahead of NULL", x.log(1, 0, 1, 9), BAD);
        x.sheet(2, 0, 60);
        due("twenty rows", x.log(2, 0, 20, 0), 0);
    }

    private static void logClashes(InningsHouse x) {
        x.set(0, 8, 2);
        due("other RUNS", x.log(0, 0, 7, 0), 2);
        due("RUNS up to it", x.log(0, 0, 7, 1), 0);
        due("STANDING up to it", x.log(0, 0, 7, 3), 3);
        due("SINGLES up to it", x.log(0, 0, 7, 12), 2);
        due("HOMERS up to it", x.log(0, 0, 7, 15), 0);
        x.set(0, 8, 3);
        x.set(0, 18, 7);
        due("STEAL with nobody on", x.log(0, 0, 7, 0), 6);
        due("halves up to it", x.log(0, 0, 7, 2), 1);
        due("STANDING behind all that fits", x.log(0, 0, 7, 3), 24);
        x.set(0, 18, 9);
        due("no such ACT", x.log(0, 0, 7, 0), 6);
        x.set(0, 18, -1);
        due("no such ACT below", x.log(0, 0, 7, 0), 6);
        x.set(0, 18, HIGH);
        due("no such ACT above", x.log(0, 0, 7, 0), 6);
        x.set(0, 18, 8);
        x.set(0, 19, NONE);
        x.set(0, 20, NONE);
        due("CAUGHT with nobody on, told as NONE", x.log(0, 0, 7, 0), 6);
        x.set(0, 18, 6);
        x.set(0, 19, 8);
        x.set(0, 20, 0);
        due("BUNT with nobody on", x.log(0, 0, 7, 0), NONE);
        due("BUNTS", x.log(0, 0, 7, 16), 1);
    }

    private static void learn() {
        promise("21 learn");
        InningsHouse x = new InningsHouse();
        write(x, 0, ROWS);
        due("learn", x.learn(0, 0, 7, 1000), 0);
        // Of seven: WALK 142, SINGLE 285, HOMER 142; left 431.
        int[] want = {431, 142, 285, 0, 0, 142, 1000};
        for (int act = 0; act <= 6; act++) {
            due("chance(0, " + act + ")", x.chance(0, act), want[act]);
        }
        x.set(0, 8, 2);
        due("up to the CLASH", x.learn(0, 0, 7, 0), 1);
        due("chance(1, 2)", x.chance(1, 2), 1000);
        due("chance(1, 0)", x.chance(1, 0), 0);
        write(x, 1, 6, 8, 0, 6, 16, 0, 6, 24, 0, 2, 1, 0, 7, 2, 0);
        due("BUNTS alone", x.learn(1, 0, 3, 0), STATE);
        due("BUNTS and STEALS do not count", x.learn(1, 0, 5, 5), 2);
        due("chance(2, 2)", x.chance(2, 2), 1000);
        due("steals 1001", x.learn(0, 0, 7, 1001), BAD);
        due("steals -1", x.learn(0, 0, 7, -1), BAD);
        due("n 0", x.learn(0, 0, 0, 0), BAD);
        due("n 21", x.learn(0, 0, 21, 0), BAD);
        due("SHEET -1", x.learn(-1, 0, 1, 0), BAD);
        due("NULL", x.learn(5, 0, 1, 0), NULL);
        due("PLACE", x.learn(0, 1, 7, 0), PLACE);
        due("PLACE i -1", x.learn(0, -1, 1, 0), PLACE);
        due("CLASH at once", x.learn(0, 1, 1, 0), STATE);
        due("count(1)", x.count(1), 3);
        for (int s = 3; s < 12; s++) {
            due("striker " + s, x.striker(0, 0, 0, 0, 0, 0), s);
        }
        due("FULL ahead of NULL", x.learn(5, 0, 1, 0), FULL);
        due("FULL ahead of STATE", x.learn(1, 0, 3, 0), FULL);
        due("BAD ahead of FULL", x.learn(0, 0, 21, 0), BAD);
    }

    private static void kind() {
        promise("22 kind");
        InningsHouse x = withKinds();
        due("kind(0)", x.kind(0), 0);
        due("kind(1)", x.kind(1), 1);
        due("kind(2)", x.kind(2), 2);
        due("kind(3)", x.kind(3), 3);
        due("kind(4)", x.kind(4), 0);
        due("kind(5)", x.kind(5), BAD);
        due("kind(-1)", x.kind(-1), BAD);
        x.train(4, 5, 250);
        due("OUT is 650", x.kind(4), 2);
        x.train(3, 6, 699);
        due("STEALS is 699", x.kind(3), 0);
        x.train(2, 5, 39);
        due("59 together", x.kind(2), 1);
    }

    private static void as() {
        promise("23 as");
        InningsHouse x = withKinds();
        int[][] is = {{1, 0, 0, 0}, {1, 1, 0, 0}, {1, 1, 1, 0}, {1, 0, 0, 1}};
        int[] out = {651, 641, 640, 969};
        for (int s = 0; s < 4; s++) {
            for (int k = 0; k < 4; k++) {
                due("as(" + s + ", " + k + ")", x.as(s, k), is[s][k] == 1 ? out[s] : KIND);
                due("status()", x.status(), is[s][k] == 1 ? 0 : 3);
            }
        }
        due("as(5, 0)", x.as(5, 0), BAD);
        due("as(-1, 0)", x.as(-1, 0), BAD);
        due("as(0, 4)", x.as(0, 4), BAD);
        due("as(0, -1)", x.as(0, -1), BAD);
    }

    private static void ask() {
        promise("24 ask");
        InningsHouse x = withKinds();
        due("SIZE plain", x.ask(0, 0), 699);
        due("SIZE SAFE", x.ask(1, 0), 700 + 1000 - 641);
        due("SIZE STRONG", x.ask(2, 0), 2 * (1000 + 1000 - 640));
        due("SIZE QUICK", x.ask(3, 0), 700 - 15);
        due("MARK plain", x.ask(0, 1), 19);
        due("MARK SAFE", x.ask(1, 1), 129);
        due("MARK STRONG", x.ask(2, 1), 140 + 2720);
        due("MARK QUICK", x.ask(3, 1), 15);
        due("ask(5, 0)", x.ask(5, 0), BAD);
        due("ask(-1, 0)", x.ask(-1, 0), BAD);
        due("ask(0, 2)", x.ask(0, 2), BAD);
        due("ask(0, -1)", x.ask(0, -1), BAD);
    }

    private static void traced(InningsHouse x, int striker, int what, int... numbers) {
        x.ask(striker, what);
        for (int i = 0; i < 18; i++) {
            due("ask(" + striker + ", " + what + "): trace(" + i + ")", x.trace(i),
                i < numbers.length ? numbers[i] : NONE);
        }
    }

    private static void trace() {
        promise("25 trace");
        InningsHouse x = withKinds();
        due("trace(0) at first", x.trace(0), NONE);
        traced(x, 2, 1, 22, 21, 20, 12, 11, 10);
        traced(x, 0, 0, 10);
        traced(x, 1, 0, 11, 10);
        traced(x, 2, 0, 12, 11, 10);
        traced(x, 3, 0, 13, 10, 23, 20);
        traced(x, 0, 1, 20);
        traced(x, 1, 1, 21, 20);
        traced(x, 3, 1, 23, 20);
        due("BAD", x.ask(9, 0), BAD);
        due("BAD changes nothing", x.trace(1), 20);
        due("trace(-1)", x.trace(-1), NONE);
        due("trace(HIGH)", x.trace(HIGH), NONE);
        due("trace(LOW)", x.trace(LOW), NONE);
    }

    private static void count() {
        promise("26 count");
        InningsHouse x = withKinds();
        x.sheet(0, 0, 0);
        x.sheet(5, 0, 1);
        x.sheet(5, 1, 1);
        orderOf(x, 0, 0, 1);
        x.team(1, 0);
        int[] want = {3, 5, 2, 1, 1, 3, 1};
        for (int what = 0; what <= 6; what++) {
            due("count(" + what + ")", x.count(what), want[what]);
        }
        x.team(1, 1);
        due("count(6) still", x.count(6), 1);
        x.team(0, 1);
        due("count(6)", x.count(6), 2);
        x.drop(0);
        due("count(0)", x.count(0), 2);
        due("count(7)", x.count(7), BAD);
        due("count(-1)", x.count(-1), BAD);
    }

    private static void status() {
        promise("27 status");
        InningsHouse x = withKinds();
        due("at first", x.status(), 0);
        x.drop(0);
        due("NULL", x.status(), 1);
        x.drop(8);
        due("BAD leaves it", x.status(), 1);
        x.kind(0);
        x.ask(2, 1);
        x.count(0);
        x.rate();
        due("other calls leave it", x.status(), 1);
        x.sheet(0, 0, 3);
        due("sheet", x.status(), 0);
        x.set(0, 3, 0);
        due("PLACE", x.status(), 2);
        x.set(0, 0, 11);
        due("set", x.status(), 0);
        x.sheet(1, 0, -1);
        due("SIZE", x.status(), 4);
        x.order(0, 0, 1);
        due("BAD at the end leaves it, too", x.status(), 4);
        x.order(0, 1, 1);
        due("order", x.status(), 0);
        x.as(0, 3);
        due("KIND", x.status(), 3);
        x.learn(0, 0, 1, 0);
        due("STATE leaves it", x.status(), 3);
        x.log(0, 0, 1, 0);
        due("log, a CLASH is none", x.status(), 0);
        x.sheet(1, 1, 3);
        x.copy(0, 0, 1, 0, 1);
        due("STORE", x.status(), 5);
        x.as(0, 0);
        due("as", x.status(), 0);
        x.copy(0, 0, 2, 0, 1);
        due("NULL of copy", x.status(), 1);
        x.copy(0, 0, 0, 0, 1);
        due("copy", x.status(), 0);
        x.log(2, 0, 1, 0);
        due("NULL of log", x.status(), 1);
        x.drop(1);
        due("drop", x.status(), 0);
        x.learn(0, 1, 1, 0);
        due("PLACE of learn", x.status(), 2);
        x.set(0, 0, 2);
        x.set(0, 1, 1);
        x.order(0, 0, 4);
        due("PLACE of order", x.status(), 2);
        x.learn(0, 0, 1, 0);
        due("learn", x.status(), 0);
        x.drop(1);
        for (int s = 6; s < 12; s++) {
            x.striker(0, 0, 0, 0, 0, 0);
        }
        due("striker leaves it", x.status(), 1);
        due("FULL", x.learn(0, 0, 1, 0), FULL);
        due("FULL leaves it", x.status(), 1);
    }
}
