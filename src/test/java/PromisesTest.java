/** Each promise of the document, by answers that were reckoned by hand. */
public final class PromisesTest {
    private static final int NO = -1000000000;

    private PromisesTest() {
    }

    public static void main(String[] args) {
        newObject();
        person();
        chore();
        rain();
        feed();
        LawPromise.all();
        doers();
        leaves();
        home();
        days();
        lastDay();
        tried();
        personIs();
        choreIs();
        cost();
        missed();
        together();
        share();
        spoilt();
        when();
        against();
        stopped();
        holds();
        mayor();
        standIn();
        hired();
        mustStay();
        halfDone();
        byTurns();
        firstDoer();
        seed();
        keepAndUndo();
        check();
        count();
        Checks.end();
    }

    private static void due(String call, long got, long want) {
        Checks.due(call, got, want);
    }

    private static void due(String call, boolean got, boolean want) {
        Checks.due(call, got, want);
    }

    /**
     * a does 4 units, b 2, c 6; chore 0 needs 3 (a, b), 1 needs 5 (b, c), 2 needs 2 (c); a unit of chore i is missed
     * by 1 + i. On a day without nobody 0 is missed, without a 4, b 3, c 12, ab 6, ac 17, bc 16, abc 19.
     */
    static MissedTown three(String leaves) {
        MissedTown x = new MissedTown();
        x.person(0, 4);
        x.person(1, 2);
        x.person(2, 6);
        x.chore(0, 3);
        x.chore(1, 5);
        x.chore(2, 2);
        due("doers of three", Checks.doers(x, "0:ab;1:bc;2:c"), 3);
        due("law of three", Checks.law(x, "m1+i(1=1)"), 1);
        if (!leaves.isEmpty()) {
            due("leaves of three", Checks.leaves(x, leaves), leaves.split(",").length);
        }
        return x;
    }

    private static final String APART = "a0-1,b1-2,c3-3";
    private static final String AT_ONCE = "a0-0,b0-0,c0-0";

    private static void newObject() {
        MissedTown x = new MissedTown();
        int[] want = {0, 0, 0, 0, 0, 0, 0, 1, 0, 0};
        for (int what = 0; what < want.length; what++) {
            due("1: count(" + what + ")", x.count(what), want[what]);
        }
        due("1: undo()", x.undo(), false);
        due("1: tried(60, 0)", x.tried(60, 0), 0);
        due("1: tried(60, 4)", x.tried(60, 4), 60);
        due("1: NONE", MissedTown.NONE, -1);
    }

    private static void person() {
        MissedTown x = new MissedTown();
        due("2: lowest", x.person(0, 0), true);
        due("2: highest", x.person(9, 20), true);
        due("2: p below", x.person(-1, 3), false);
        due("2: p above", x.person(10, 3), false);
        due("2: cap below", x.person(1, -1), false);
        due("2: cap above", x.person(1, 21), false);
        due("2: far off", x.person(Integer.MIN_VALUE, Integer.MAX_VALUE), false);
        due("2: told", x.count(2), 1 | 1 << 9);
        Checks.leaves(x, "j3-5");
        due("2: again", x.person(9, 7), true);
        due("2: cap is new", x.personIs(9, 0), 7);
        due("2: leave stays", x.personIs(9, 2), 5);
        due("2: refused changes nothing", x.person(9, 21), false);
        due("2: cap stays", x.personIs(9, 0), 7);
    }

    private static void chore() {
        MissedTown x = new MissedTown();
        Checks.doers(x, "11:ab");
        due("3: lowest", x.chore(0, 0), true);
        due("3: highest", x.chore(11, 20), true);
        due("3: i below", x.chore(-1, 3), false);
        due("3: i above", x.chore(12, 3), false);
        due("3: amount below", x.chore(1, -1), false);
        due("3: amount above", x.chore(1, 21), false);
        due("3: told", x.count(3), 1 | 1 << 11);
        x.days(1);
        due("3: undone", x.choreIs(11, 1), 20);
        due("3: refused changes nothing", x.chore(11, 21), false);
        due("3: still undone", x.choreIs(11, 1), 20);
        due("3: again", x.chore(11, 4), true);
        due("3: nothing undone", x.choreIs(11, 1), 0);
        due("3: amount is new", x.choreIs(11, 0), 4);
        due("3: doers stay", x.choreIs(11, 2), 2);
    }

    private static void rain() {
        MissedTown x = new MissedTown();
        due("4: below", x.rain(-1), false);
        due("4: above", x.rain(11), false);
        due("4: lowest", x.rain(0), true);
        due("4: never", x.tried(60, 1), 0);
        due("4: highest", x.rain(10), true);
        due("4: always", x.tried(60, 1), 60);
        due("4: refused", x.rain(11), false);
        due("4: stays", x.count(8), 10);
        // The draws from seed 1 on: 2 7 6 5 2 9 6 7 2 9.
        int[] rainy = {0, 0, 0, 3, 3, 3, 4, 6, 8, 8, 10};
        for (int tenths = 0; tenths <= 10; tenths++) {
            x.rain(tenths);
            due("4: rainy by " + tenths, x.tried(10, 1), rainy[tenths]);
        }
    }

    private static void feed() {
        MissedTown x = new MissedTown();
        for (int k = 1; k <= 13; k++) {
            due("5: feed " + k, x.feed(k, -1, 0x01020304, Integer.MIN_VALUE, 5), 20 * k);
        }
        due("5: too many", x.feed(0, 0, 0, 0, 0), -1);
        due("5: stays", x.count(6), 260);
        MissedTown y = new MissedTown();
        for (int i = 0; i < 12; i++) {
            y.chore(i, 0);
        }
        // The highest byte comes first, and bytes are 0 to 255.
        Checks.law(y, "ni*20(i<5);n99(i=5);n0(1=1)");
        y.days(1);
        y.feed(0x0014283c, 0x50630000, 0, 0, 0);
        due("5: bytes in their order", y.check(12), -1);
        y.feed(0x0014283c, 0x50e30000, 0, 0, 0);
        due("5: a high byte", y.check(12), 5);
    }

    private static void doers() {
        MissedTown x = new MissedTown();
        due("7: one", Checks.doers(x, "0:a"), 1);
        due("7: zero ahead", Checks.doers(x, "03:ba"), 1);
        due("7: ten", Checks.doers(x, "11:jihgfedcba"), 1);
        due("7: twice, the later", Checks.doers(x, "1:abc;2:c;1:dj"), 3);
        for (int i = 0; i < 12; i++) {
            x.chore(i, 1);
        }
        due("7: later ones", x.choreIs(1, 2), 2);
        due("7: first of them", x.choreIs(1, 10), 3);
        due("7: second of them", x.choreIs(1, 11), 9);
        due("7: of chore 3", x.choreIs(3, 10), 1);
        due("7: others stay", x.choreIs(11, 19), 0);
        String[] texts = {"x", "0", "0:", "0:k", "0a", ":a", "0:aa", "0:abcdefghija", "12:a", "123:a", "99", "012:a",
            "113:a", "0:a;", "0:a,1:b", "0:a;;1:b", "0:a 1:b", "5:ab;12", "0:a;1:bcb;13:a", "-1:a", "0:a;1:b;12:k"};
        int[] faults = {-1000, -1001, -1002, -1002, -1001, -1000, -6003, -6012, -3000, -3000, -3000, -1002,
            -1002, -1004, -1003, -1004, -1003, -3005, -6008, -1000, -3008};
        for (int k = 0; k < texts.length; k++) {
            due("7: " + texts[k], Checks.doers(x, texts[k]), faults[k]);
            due("7: the tape is empty", x.count(6), 0);
        }
        due("7: a fault changes nothing", x.choreIs(5, 2), 0);
        due("7: nor here", x.choreIs(0, 2), 1);
        String twelve = "0:a;1:b;2:c;3:d;4:e;5:f;6:g;7:h;8:i;9:j;0:b;1:c";
        due("7: twelve", Checks.doers(x, twelve), 12);
        due("7: a thirteenth", Checks.doers(x, twelve + ";99:k"), -4048);
        due("7: no thirteenth", Checks.doers(x, twelve + ";a"), -1048);
        due("7: above 11 as the thirteenth", Checks.doers(x, twelve + ";"), -1048);
        refusals(x, "7: ");
    }

    /** No such n, or not so many bytes: NONE, and the tape stays. */
    private static void refusals(MissedTown x, String promise) {
        boolean isDoers = promise.startsWith("7");
        int[] wrong = {Integer.MIN_VALUE, -1, 0, 41, 121, 261, Integer.MAX_VALUE};
        Checks.feed(x, isDoers ? "0:ab;1:c;2:efgh;3:abcdefghij;4:a;5:bcdef" : "a1-2,b3-4,c5-6,d700-800,e9-100,f11-12ab");
        for (int n : wrong) {
            due(promise + n, isDoers ? x.doers(n) : x.leaves(n), -1);
            due(promise + "the tape stays", x.count(6), 40);
        }
        due(promise + "the first bytes", isDoers ? x.doers(3) : x.leaves(4), 1);
        due(promise + "empty then", x.count(6), 0);
        for (int k = 0; k < 7; k++) {
            Checks.feed(x, "00000000000000000000");
        }
        due(promise + "121 are there", isDoers ? x.doers(121) : x.leaves(121), -1);
        due(promise + "120 are read", isDoers ? x.doers(120) : x.leaves(120), isDoers ? -1002 : -1000);
    }

    private static void leaves() {
        MissedTown x = new MissedTown();
        x.person(0, 1);
        due("8: one", Checks.leaves(x, "a0-0"), 1);
        due("8: three digits", Checks.leaves(x, "a007-999,j12-012"), 2);
        due("8: first", x.personIs(0, 1), 7);
        due("8: last", x.personIs(0, 2), 999);
        due("8: in place of all", Checks.leaves(x, "b3-4"), 1);
        due("8: none", x.personIs(0, 1), -2);
        due("8: bits", x.count(9), 2);
        String[] texts = {"k", "a", "a-", "a1", "a1-", "a1x", "a1-x", "a1234-5", "a1-1234", "a5-4", "a5-4x", "a12-3,a",
            "a1-2,", "a1-2;", "a1-2,,", "a1-2,a3-4", "a1-2,b3-4,a", "A1-2", "a 1-2", "a1--2", "a100-99,b1-2", "a1-22,b9-1",
            "a500-1234", "a12-0134"};
        int[] faults = {-1000, -1001, -1001, -1002, -1003, -1002, -1003, -1004, -1006, -7003, -7003, -7004,
            -1005, -1004, -1005, -6005, -6010, -1000, -1001, -1003, -7005, -7009,
            -1008, -1007};
        for (int k = 0; k < texts.length; k++) {
            due("8: " + texts[k], Checks.leaves(x, texts[k]), faults[k]);
            due("8: the tape is empty", x.count(6), 0);
        }
        due("8: a fault changes nothing", x.count(9), 2);
        String ten = "j0-1,i0-1,h0-1,g0-1,f0-1,e0-1,d0-1,c0-1,b0-1,a0-1";
        due("8: ten", Checks.leaves(x, ten), 10);
        due("8: an eleventh", Checks.leaves(x, ten + ",a"), -4050);
        due("8: no eleventh", Checks.leaves(x, ten + ",k"), -1050);
        due("8: all", x.count(9), 1023);
        refusals(x, "8: ");
    }

    private static void home() {
        MissedTown x = three("a0-5,b2-3,h7-8");
        due("9: away today", x.count(4), 1);
        due("9: three had one", x.home(), 3);
        due("9: nobody away", x.count(4), 0);
        due("9: nobody has one", x.count(9), 0);
        due("9: again", x.home(), 0);
        due("9: nothing missed", x.tried(5, 0), 0);
    }

    private static void days() {
        MissedTown x = three(APART);
        due("10: 0", x.days(0), -1);
        due("10: 61", x.days(61), -1);
        due("10: below", x.days(-1), -1);
        due("10: nothing changed", x.count(0), 0);
        due("10: one", x.days(1), 4);
        due("10: undone of 0", x.choreIs(0, 1), 1);
        due("10: undone of 2", x.choreIs(2, 1), 1);
        due("10: X", x.count(7), 39022);
        due("10: two more", x.days(2), 9);
        due("10: not done on the next day", x.choreIs(0, 1), 0);
        due("10: missed so far", x.count(1), 13);
        due("10: the day", x.count(0), 3);
        due("10: sixty", x.days(60), 12);
        due("10: missed so far", x.count(1), 25);
        carried();
        untold();
    }

    /** What is undone is to be done on the next day, too, by k; 99 units at most. */
    private static void carried() {
        MissedTown x = new MissedTown();
        x.chore(0, 20);
        x.chore(1, 20);
        Checks.law(x, "m1(i=0);k(i=0&u<41);k(u=40)");
        due("10: first", x.days(1), 20);
        due("10: carried", x.days(1), 40);
        due("10: carried again", x.days(1), 60);
        due("10: no more", x.days(1), 20);
        Checks.law(x, "n90(d=4&i=0);m1(1=1);k(d=5)");
        due("10: many", x.days(1), 110);
        due("10: 99 at most", x.days(1), 139);
        due("10: of 1", x.choreIs(1, 1), 40);
        due("10: of 0", x.choreIs(0, 1), 99);
    }

    /** Who is not told does nothing, nor is a chore that is not told; who is away counts, told or not. */
    private static void untold() {
        MissedTown x = new MissedTown();
        x.person(1, 3);
        x.chore(4, 5);
        Checks.doers(x, "3:b;4:ab");
        Checks.law(x, "m1+10*a(1=1)");
        due("10: two left", x.days(1), 2);
        Checks.leaves(x, "a1-1,c1-2");
        due("10: two away", x.days(1), 42);
        due("10: one away", x.days(1), 22);
        due("10: none away", x.days(1), 2);
    }

    private static void lastDay() {
        MissedTown x = new MissedTown();
        x.person(0, 1);
        x.chore(0, 3);
        Checks.doers(x, "0:a");
        Checks.law(x, "m1(1=1)");
        for (int k = 0; k < 166; k++) {
            due("10: sixty days", x.days(60), 120);
        }
        due("10: the day", x.count(0), 9960);
        due("10: when, near the end", x.when(0, 5, 30, 0), 9960);
        due("10: as many as can", x.tried(60, 0), 78);
        due("10: clear ones", x.tried(60, 4), 0);
        due("10: as many as can", x.days(60), 78);
        due("10: 9999 at most", x.count(0), 9999);
        int drawn = x.count(7);
        due("10: none goes by", x.days(60), 0);
        due("10: X stays", x.count(7), drawn);
        due("11: none is tried", x.tried(5, 4), 0);
        due("11: undone as it is", x.tried(5, 2), 2);
        due("14: nothing", x.cost(1, 60), 0);
        due("19: today", x.when(0, 5, 30, 0), 9999);
        due("20: all alike", x.person(1, 1) ? x.against(0, 1, 5, 10, 0) : 0, 25);
        due("21: as it is", Checks.stopped(x, 2), 1027);
        due("26: nothing is undone in no days", x.mustStay(5, 0), 0);
        due("25: least row", x.hired(3, 3, 5, 1), 3);
        due("28: least row", x.byTurns(3, 5, 0), 0);
        due("29: nobody", x.firstDoer(0, 5, 0), -2);
    }

    private static void tried() {
        MissedTown x = three(APART);
        x.rain(3);
        due("11: missed", x.tried(4, 0), 25);
        due("11: rainy", x.tried(4, 1), 1);
        due("11: undone then", x.tried(4, 2), 5);
        due("11: done", x.tried(4, 3), 8 + 6 + 9 + 5);
        due("11: clear", x.tried(4, 4), 0);
        due("11: clear later", x.tried(9, 4), 5);
        due("11: of chore 1", x.tried(4, 11), 3);
        due("11: of chore 2", x.tried(4, 12), 2);
        due("11: by a", x.tried(4, 30), 6);
        due("11: by b", x.tried(4, 31), 4);
        due("11: by c", x.tried(4, 32), 6 + 6 + 6);
        int[][] wrong = {{0, 0}, {61, 0}, {-1, 2}, {1, -1}, {1, 5}, {1, 9}, {1, 13}, {1, 22}, {1, 29}, {1, 33}, {1, 40},
            {1, Integer.MIN_VALUE}, {1, Integer.MAX_VALUE}};
        for (int[] w : wrong) {
            due("11: tried(" + w[0] + ", " + w[1] + ")", x.tried(w[0], w[1]), -1);
        }
        due("11: nothing goes by", x.count(0), 0);
        due("11: X stays", x.count(7), 1);
        due("11: nothing is undone", x.choreIs(1, 1), 0);
    }

    private static void personIs() {
        MissedTown x = three("a2-5");
        Checks.doers(x, "7:abc;9:a");
        due("12: cap", x.personIs(1, 0), 2);
        due("12: first", x.personIs(0, 1), 2);
        due("12: last", x.personIs(0, 2), 5);
        due("12: none", x.personIs(1, 1), -2);
        due("12: none", x.personIs(1, 2), -2);
        int[] away = {0, 0, 1, 1, 1, 1, 0};
        for (int day = 0; day < 7; day++) {
            due("12: away on " + day, x.personIs(0, 3), away[day]);
            x.days(1);
        }
        due("12: told chores of b", x.personIs(1, 4), 3);
        x.chore(7, 0);
        due("12: one more", x.personIs(1, 4), 3 | 1 << 7);
        due("12: what", x.personIs(1, 5), -1);
        due("12: what", x.personIs(1, -1), -1);
        due("12: not told", x.personIs(3, 0), -1);
        due("12: below", x.personIs(-1, 0), -1);
        due("12: above", x.personIs(10, 0), -1);
    }

    private static void choreIs() {
        MissedTown x = three("a0-0");
        due("13: amount", x.choreIs(1, 0), 5);
        x.days(1);
        due("13: undone", x.choreIs(0, 1), 1);
        due("13: doers", x.choreIs(1, 2), 2);
        due("13: first", x.choreIs(1, 10), 1);
        due("13: second", x.choreIs(1, 11), 2);
        int[][] wrong = {{1, 12}, {1, 9}, {1, 3}, {1, -1}, {3, 0}, {-1, 0}, {12, 0}, {1, Integer.MIN_VALUE}};
        for (int[] w : wrong) {
            due("13: choreIs(" + w[0] + ", " + w[1] + ")", x.choreIs(w[0], w[1]), -1);
        }
        x.chore(3, 1);
        due("13: no doers", x.choreIs(3, 2), 0);
        due("13: no first", x.choreIs(3, 10), -1);
    }

    private static void cost() {
        MissedTown x = three(APART);
        int[] want = {0, 8, 6, 13, 12, 20, 18, 25};
        for (int set = 0; set < 8; set++) {
            due("14: cost(" + set + ", 4)", x.cost(set, 4), want[set]);
        }
        due("14: sixty", x.cost(7, 60), 25);
        due("14: one", x.cost(7, 1), 4);
        due("14: not told", x.cost(8, 4), -1);
        due("14: beyond", x.cost(1024, 4), -1);
        due("14: below", x.cost(-1, 4), -1);
        due("14: lowest", x.cost(Integer.MIN_VALUE, 4), -1);
        due("14: 0 days", x.cost(1, 0), -1);
        due("14: 61 days", x.cost(1, 61), -1);
        x.person(3, 0);
        due("14: one without a leave", x.cost(9, 4), 8);
        due("14: leaves are as they were", x.count(9), 7);
    }

    private static void missed() {
        MissedTown x = three(APART);
        due("15: a", x.missed(0, 4), 8);
        due("15: b", x.missed(1, 4), 6);
        due("15: c", x.missed(2, 4), 12);
        due("15: later", x.missed(2, 3), 0);
        x.chore(3, 2);
        due("15: less that of nobody", x.missed(0, 4), 8);
        due("15: nobody's", x.cost(0, 4), 32);
        Checks.leaves(x, "a0-1,d0-1");
        int[][] wrong = {{1, 4}, {3, 4}, {-1, 4}, {10, 4}, {0, 0}, {0, 61}};
        for (int[] w : wrong) {
            due("15: missed(" + w[0] + ", " + w[1] + ")", x.missed(w[0], w[1]), NO);
        }
        // Who does better for the others when away is missed by less than nothing.
        Checks.law(x, "m1(1=1);c20(a=1)");
        due("15: no more", x.missed(0, 1), 0);
        Checks.law(x, "m1(1=1);nx-1(a=1)");
        due("15: below 0", x.missed(0, 1), -1);
    }

    private static void together() {
        MissedTown x = three(APART);
        due("16: a, b", x.together(0, 1, 4), -1);
        due("16: b, a", x.together(1, 0, 4), -1);
        due("16: a, c", x.together(0, 2, 4), 0);
        x = three(AT_ONCE);
        due("16: at once", x.together(0, 2, 1), 17 - 4 - 12);
        x.chore(3, 2);
        due("16: with that of nobody", x.together(0, 2, 1), 1);
        Checks.leaves(x, "a0-0,b0-0,d0-0");
        int[][] wrong = {{0, 0, 4}, {0, 2, 4}, {2, 0, 4}, {0, 3, 4}, {-1, 0, 4}, {0, 10, 4}, {0, 1, 0}, {0, 1, 61}};
        for (int[] w : wrong) {
            due("16: together(" + w[0] + ", " + w[1] + ", " + w[2] + ")", x.together(w[0], w[1], w[2]), NO);
        }
    }

    private static void share() {
        MissedTown x = three(AT_ONCE);
        int[] above = {11, 8, 38};
        for (int p = 0; p < 3; p++) {
            due("17: above of " + p, x.share(7, p, 1, 0), above[p]);
            due("17: below of " + p, x.share(7, p, 1, 1), 3);
        }
        due("17: elected", x.share(7, -5, 1, 2), 2);
        due("17: elected of a, b", x.share(3, 99, 1, 2), 0);
        due("17: a of a, b", x.share(3, 0, 1, 0), 7);
        due("17: below of a, b", x.share(3, 0, 1, 1), 2);
        due("17: alone", x.share(4, 2, 1, 0), 12);
        due("17: alone", x.share(4, 2, 1, 1), 1);
        x = three(APART);
        due("17: a", x.share(7, 0, 4, 0), 15);
        due("17: a", x.share(7, 0, 4, 1), 2);
        due("17: c", x.share(7, 2, 4, 0), 12);
        due("17: c", x.share(7, 2, 4, 1), 1);
        due("17: nothing", x.share(6, 2, 1, 0), 0);
        due("17: by one", x.share(6, 2, 1, 1), 1);
        due("17: of like ones the lowest", x.share(6, 0, 1, 2), 1);
        Checks.law(x, "m1(1=1);nx-1(a=1)");
        due("17: below 0", x.share(1, 0, 1, 0), 2 - 1 - 1);
        x.person(3, 9);
        Checks.leaves(x, "a0-0,b0-0,d0-0,e0-0");
        int[][] wrong = {{0, 0, 4, 0}, {0, 0, 4, 2}, {1, 1, 4, 0}, {5, 0, 4, 0}, {17, 0, 4, 0}, {1, 0, 0, 0}, {1, 0, 61, 0},
            {1, 0, 4, 3}, {1, 0, 4, -1}, {1, -1, 4, 1}, {1024, 10, 4, 0}, {-1, 0, 4, 2}, {5, 0, 4, 2}, {3, 2, 4, 1}};
        for (int[] w : wrong) {
            due("17: share(" + w[0] + ", " + w[1] + ", " + w[2] + ", " + w[3] + ")", x.share(w[0], w[1], w[2], w[3]), NO);
        }
        shareOfFive();
    }

    private static void shareOfFive() {
        MissedTown x = new MissedTown();
        for (int p = 0; p < 6; p++) {
            x.person(p, 0);
        }
        x.chore(0, 1);
        // Only if all five are away it is missed: each has a fifth of 7.
        Checks.law(x, "m7(a=5)");
        Checks.leaves(x, "a0-0,b0-0,c0-0,d0-0,e0-0,f0-0");
        due("17: a fifth above", x.share(31, 4, 1, 0), 7);
        due("17: a fifth below", x.share(31, 4, 1, 1), 5);
        due("17: elected", x.share(31, 4, 1, 2), 0);
        due("17: six", x.share(63, 4, 1, 0), NO);
        Checks.law(x, "m1(a=0)");
        due("17: below 0", x.share(31, 4, 1, 0), -1);
        due("17: below the line", x.share(31, 4, 1, 1), 5);
    }

    private static void spoilt() {
        MissedTown x = three(AT_ONCE);
        int[][] want = {{NO, -1, 1}, {-1, NO, 1}, {1, 1, NO}};
        for (int p = 0; p < 3; p++) {
            for (int q = 0; q < 3; q++) {
                due("18: " + p + " by " + q, x.spoilt(p, q, 1), want[p][q]);
            }
        }
        due("18: who spoils a most", x.spoilt(0, 10, 1), 2);
        due("18: who spoils b most", x.spoilt(1, 10, 1), 2);
        due("18: of like ones the lowest", x.spoilt(2, 10, 1), 0);
        x.person(3, 5);
        due("18: without a leave", x.spoilt(0, 3, 1), 0);
        Checks.leaves(x, "a0-0,b5-5,e0-0");
        due("18: nobody", x.spoilt(1, 10, 1), -2);
        int[][] wrong = {{2, 0, 1}, {2, 10, 1}, {0, 11, 1}, {0, -1, 1}, {0, 4, 1}, {4, 0, 1}, {10, 0, 1}, {0, 1, 0},
            {0, 10, 61}, {10, 10, 1}};
        for (int[] w : wrong) {
            due("18: spoilt(" + w[0] + ", " + w[1] + ", " + w[2] + ")", x.spoilt(w[0], w[1], w[2]), NO);
        }
        // Who can do nothing is not away. c idle: 5 units by 1, without a 8 by 11; c as ever: 0, without a 2 by 11.
        Checks.law(x, "m1+10*a(1=1)");
        due("18: not away", x.spoilt(0, 2, 1), 61);
        nobodySpoilsItself();
    }

    private static void nobodySpoilsItself() {
        MissedTown x = new MissedTown();
        x.person(0, 3);
        x.person(1, 0);
        x.chore(0, 4);
        Checks.doers(x, "0:a");
        Checks.leaves(x, "a0-0");
        Checks.law(x, "m5(u=1)");
        due("18: missed by less than nothing", x.missed(0, 1), -5);
        due("18: nobody but the one itself", x.spoilt(0, 10, 1), -2);
    }

    private static MissedTown bySeason(String leaves) {
        MissedTown x = three(leaves);
        Checks.law(x, "m1+i(d<3);m10(d=3);m1(1=1)");
        return x;
    }

    private static void when() {
        MissedTown x = bySeason("a0-9,b5-5");
        due("19: a for a day", x.when(0, 1, 5, 0), 3);
        due("19: missed then", x.when(0, 1, 5, 1), 20);
        due("19: a for two days", x.when(0, 2, 5, 0), 2);
        due("19: missed then", x.when(0, 2, 5, 1), 24);
        due("19: of like ones the earliest", x.when(0, 1, 2, 0), 0);
        due("19: by that", x.when(0, 1, 2, 1), 4);
        due("19: without a leave, a being away", x.when(2, 1, 3, 1), 13);
        // Days 0 to 7 with b on day 5, where a and b together leave 4 units by 1, b alone 1: 3 more, and a alone 2 on 6.
        x.days(4);
        due("19: from the day on", x.when(0, 1, 2, 0), 5);
        due("19: others go", x.when(0, 1, 2, 1), 3);
        due("19: whole length", x.when(0, 20, 30, 0), 4);
        int[][] wrong = {{3, 1, 1, 0}, {-1, 1, 1, 0}, {10, 1, 1, 0}, {0, 0, 1, 0}, {0, 21, 1, 0}, {0, 1, 0, 0}, {0, 1, 31, 0},
            {0, 1, 1, 2}, {0, 1, 1, -1}};
        for (int[] w : wrong) {
            due("19: when(" + w[0] + ", " + w[1] + ", " + w[2] + ", " + w[3] + ")", x.when(w[0], w[1], w[2], w[3]), NO);
        }
        due("19: its own leave stays", x.personIs(0, 2), 9);
    }

    private static void against() {
        MissedTown x = bySeason("a0-9,b5-5");
        int[][] asked = {{5, 1, 1, 3, 3}, {3, 1, 9, 0, 0}, {2, 2, 1, 1, 1}, {4, 1, 1, 3, 3}, {2, 1, 4, 0, 0}};
        for (int[] a : asked) {
            String call = "20: against(0, 1, " + a[0] + ", " + a[1] + ", ";
            due(call + "0)", x.against(0, 1, a[0], a[1], 0), a[2]);
            due(call + "1)", x.against(0, 1, a[0], a[1], 1), a[3]);
            due(call + "2)", x.against(0, 1, a[0], a[1], 2), a[4]);
        }
        // With c away on day 0 only chore 0 is done by a and b: a leaves 1 + 2 units more there (5), b 2 by 2 (4).
        Checks.leaves(x, "c0-0");
        Checks.law(x, "m1+i(1=1)");
        due("20: others as they are", x.against(0, 1, 2, 1, 0), 1);
        due("20: p", x.against(0, 1, 2, 1, 1), 0);
        due("20: q", x.against(0, 1, 2, 1, 2), 0);
        int[][] wrong = {{0, 0, 2, 1, 0}, {0, 3, 2, 1, 0}, {-1, 0, 2, 1, 0}, {0, 10, 2, 1, 0}, {0, 1, 1, 1, 0}, {0, 1, 6, 1, 0},
            {0, 1, 2, 0, 0}, {0, 1, 2, 11, 0}, {0, 1, 2, 1, 3}, {0, 1, 2, 1, -1}};
        for (int[] w : wrong) {
            due("20: against(" + w[0] + ", " + w[1] + ", " + w[2] + ", " + w[3] + ", " + w[4] + ")",
                    x.against(w[0], w[1], w[2], w[3], w[4]), NO);
        }
    }

    private static void stopped() {
        MissedTown x = three(AT_ONCE);
        due("21: a", Checks.stopped(x, 1, 0, 1), 1);
        due("21: b", Checks.stopped(x, 0, 0, 1), 2);
        due("21: c", Checks.stopped(x, 0, 3, 2), 4);
        due("21: nobody away", Checks.stopped(x, 0, 0, 0), 1024);
        due("21: nobody fits", Checks.stopped(x, 7, 0, 0), 0);
        due("21: of chore 0 alone", Checks.stopped(x, 0), 1030);
        due("21: not told 0", Checks.stopped(x, 0, 0, 1, 0, 0, 0, 0, 0, 0, 0, 0, 0), 2);
        due("21: not told 1", Checks.stopped(x, 0, 0, 1, 0, 0, 0, 0, 0, 0, 0, 0, 1), 0);
        Checks.law(x, "k(1=1)");
        Checks.leaves(x, "b0-0");
        x.days(1);
        due("21: with what was undone", Checks.stopped(x, 1, 0, 2), 1);
        due("21: and all else done", Checks.stopped(x, 0, 0, 0), 1024);
        x.feed(0, 0, 0, 0, 0);
        for (int n : new int[] {0, -1, 13, 21, Integer.MIN_VALUE}) {
            due("21: stopped(" + n + ")", x.stopped(n), -1);
            due("21: the tape stays", x.count(6), 20);
        }
        due("21: nothing goes by", x.count(0), 1);
        x.stopped(1);
        due("21: empty then", x.count(6), 0);
        due("21: not so many", x.stopped(1), -1);
    }

    private static void holds() {
        MissedTown x = three("a3-4,b0-0");
        x.chore(3, 2);
        int[][] asked = {{0, 0, 0}, {1, 1, 1}, {4, 1, 1}, {5, 1, 4}, {12, 1, 4}, {13, 2, 5}, {17, 2, 5}, {18, 3, 7}, {19, 3, 7},
            {20, -2, -2}, {999999, -2, -2}};
        for (int[] a : asked) {
            due("22: holds(1, " + a[0] + ", 0)", x.holds(1, a[0], 0), a[1]);
            due("22: holds(1, " + a[0] + ", 1)", x.holds(1, a[0], 1), a[2]);
        }
        due("22: for twenty days", x.holds(20, 240, 1), 4);
        due("22: by one more", x.holds(20, 241, 1), 5);
        int[][] wrong = {{0, 1, 0}, {21, 1, 0}, {1, -1, 0}, {1, 1000000, 0}, {1, 1, 2}, {1, 1, -1}};
        for (int[] w : wrong) {
            due("22: holds(" + w[0] + ", " + w[1] + ", " + w[2] + ")", x.holds(w[0], w[1], w[2]), -1);
        }
        due("22: nobody told", new MissedTown().holds(1, 1, 0), -2);
        MissedTown ten = ten("m1(a=10)");
        due("22: all ten", ten.holds(1, 1, 0), 10);
        due("22: who", ten.holds(1, 1, 1), 1023);
        Checks.law(ten, "m1(a=9)");
        due("22: but not by all", ten.holds(1, 1, 1), 511);
        due("22: leaves are as they were", x.count(9), 3);
    }

    /** Ten people who can do nothing, with a leave each on the first day, and a chore of one unit. */
    private static MissedTown ten(String law) {
        MissedTown x = new MissedTown();
        for (int p = 0; p < 10; p++) {
            x.person(p, 0);
        }
        x.chore(0, 1);
        Checks.law(x, law);
        Checks.leaves(x, "a0-0,b0-0,c0-0,d0-0,e0-0,f0-0,g0-0,h0-0,i0-0,j0-0");
        return x;
    }

    private static void mayor() {
        MissedTown x = three("a3-4,b0-0");
        x.chore(3, 2);
        due("23: who", x.mayor(1, 0), 1);
        due("23: how much", x.mayor(1, 1), 3);
        due("23: for sixty days", x.mayor(60, 1), 180);
        due("23: a", x.mayor(1, 10), 4);
        due("23: b", x.mayor(2, 11), 6);
        due("23: c", x.mayor(1, 12), 12);
        Checks.law(x, "m1(a=0)");
        due("23: below 0", x.mayor(1, 1), -2);
        due("23: of like ones the lowest", x.mayor(1, 0), 0);
        int[][] wrong = {{0, 0}, {61, 0}, {1, 2}, {1, 9}, {1, -1}, {1, 13}, {1, 20}, {1, Integer.MIN_VALUE}};
        for (int[] w : wrong) {
            due("23: mayor(" + w[0] + ", " + w[1] + ")", x.mayor(w[0], w[1]), NO);
        }
        MissedTown empty = new MissedTown();
        due("23: nobody is told", empty.mayor(1, 0), -2);
        due("23: nobody is told", empty.mayor(1, 1), -2);
        due("23: not told", empty.mayor(1, 10), NO);
        due("23: no such days", empty.mayor(0, 0), NO);
    }

    private static void standIn() {
        MissedTown x = three(AT_ONCE);
        due("24: c for a at 0", x.standIn(0, 2, 0, 1), 4);
        due("24: c for a at 1", x.standIn(0, 2, 1, 1), 3);
        due("24: c for a at 2", x.standIn(0, 2, 2, 1), 0);
        due("24: most", x.standIn(0, 2, 12, 1), 0);
        due("24: b for a at 0", x.standIn(0, 1, 0, 1), 3);
        due("24: a for c at 1", x.standIn(2, 0, 1, 1), 2);
        due("24: below 0", x.standIn(2, 1, 0, 1), -1);
        due("24: most", x.standIn(2, 0, 12, 1), 2);
        due("24: a for c at 2", x.standIn(2, 0, 2, 1), 3);
        due("24: of like ones the lowest", x.standIn(1, 0, 12, 1), 1);
        due("24: a for b at 1", x.standIn(1, 0, 1, 1), 3);
        due("24: a for b at 2", x.standIn(1, 0, 2, 1), 3);
        Checks.leaves(x, "a0-0,d0-0");
        int[][] wrong = {{0, 0, 0, 1}, {1, 0, 0, 1}, {0, 3, 0, 1}, {3, 0, 0, 1}, {0, 1, 3, 1}, {0, 1, 13, 1}, {0, 1, -1, 1},
            {0, 1, 0, 0}, {0, 1, 0, 61}, {0, 10, 0, 1}, {-1, 0, 0, 1}};
        for (int[] w : wrong) {
            due("24: standIn(" + w[0] + ", " + w[1] + ", " + w[2] + ", " + w[3] + ")", x.standIn(w[0], w[1], w[2], w[3]), NO);
        }
        MissedTown empty = new MissedTown();
        empty.person(0, 1);
        empty.person(1, 1);
        Checks.leaves(empty, "a0-0");
        due("24: no chore is told", empty.standIn(0, 1, 12, 1), NO);
        due("24: the doers stay", x.choreIs(0, 10), 0);
    }

    private static void hired() {
        MissedTown x = three("a0-0");
        due("25: one unit, missed", x.hired(1, 6, 1, 10), 1);
        due("25: one unit, b", x.hired(1, 6, 1, 1), 0);
        due("25: one unit, c", x.hired(1, 6, 1, 2), 1);
        due("25: two units, missed", x.hired(2, 6, 1, 10), 0);
        due("25: two units, b", x.hired(2, 6, 1, 1), 1);
        due("25: two units, c", x.hired(2, 6, 1, 2), 1);
        due("25: of three, a", x.hired(9, 7, 1, 0), 0);
        due("25: of three, b", x.hired(9, 7, 1, 1), 1);
        due("25: of three, c", x.hired(9, 7, 1, 2), 8);
        due("25: in vain", x.hired(9, 1, 1, 10), 4);
        due("25: just so many", x.hired(9, 1, 1, 0), 9);
        Checks.law(x, "m1+i(1=1);c0(x=8);c1(x=3)");
        // c by 8 can do nothing, b by 3 just one: with (1, 1) 2 + 2 and a unit too few; the best of all is (2, 0).
        due("25: by the law of the cap", x.hired(2, 6, 1, 1), 2);
        due("25: missed", x.hired(2, 6, 1, 10), 0);
        x.person(3, 1);
        int[][] wrong = {{0, 6, 1, 10}, {10, 6, 1, 10}, {1, 0, 1, 10}, {1, 15, 1, 10}, {1, 16, 1, 10}, {1, 6, 0, 10}, {1, 6, 61, 10},
            {1, 6, 1, 0}, {1, 6, 1, 11}, {1, 6, 1, -1}, {1, -1, 1, 10}, {1, 1025, 1, 10}};
        for (int[] w : wrong) {
            due("25: hired(" + w[0] + ", " + w[1] + ", " + w[2] + ", " + w[3] + ")", x.hired(w[0], w[1], w[2], w[3]), -1);
        }
        due("25: the cap stays", x.personIs(2, 0), 6);
    }

    private static void mustStay() {
        MissedTown x = three(AT_ONCE);
        due("26: all", x.mustStay(1, 0), 3);
        due("26: who", x.mustStay(1, 1), 7);
        x.chore(0, 2);
        x.chore(2, 1);
        due("26: two", x.mustStay(1, 0), 2);
        due("26: of like ones the least bits", x.mustStay(1, 1), 5);
        Checks.leaves(x, "a1-1,b1-1,c9-9");
        due("26: nobody today", x.mustStay(1, 0), 0);
        due("26: nobody today", x.mustStay(1, 1), 0);
        due("26: one till tomorrow", x.mustStay(2, 0), 1);
        due("26: who", x.mustStay(9, 1), 1);
        due("26: on the tenth day", x.mustStay(10, 1), 5);
        int[][] wrong = {{0, 0}, {21, 0}, {1, 2}, {1, -1}};
        for (int[] w : wrong) {
            due("26: mustStay(" + w[0] + ", " + w[1] + ")", x.mustStay(w[0], w[1]), -1);
        }
        x.chore(3, 1);
        due("26: even if all stay", x.mustStay(1, 0), -2);
        due("26: even if all stay", x.mustStay(1, 1), -2);
        MissedTown ten = ten("n1(a>0);n0(1=1)");
        due("26: all ten", ten.mustStay(1, 0), 10);
        due("26: who", ten.mustStay(1, 1), 1023);
        Checks.law(ten, "n0(a=3)");
        due("26: though not if all stay", ten.mustStay(1, 1), 127);
        x.chore(3, 0);
        x.home();
        due("26: nobody has a leave", x.mustStay(20, 0), 0);
    }

    private static void halfDone() {
        MissedTown x = three("a2-3,b0-5,c5-6");
        due("27: all is made good", x.halfDone(0, 1), 0);
        Checks.law(x, "m1+i(1=1);k(1=1)");
        due("27: a day ahead", x.halfDone(0, 1), 8);
        due("27: two days ahead", x.halfDone(0, 2), 16);
        due("27: within three days", x.halfDone(0, 3), -2);
        due("27: it has begun", x.halfDone(1, 1), -2);
        Checks.leaves(x, "a2-59,b2-60,c1-60,d5-6");
        due("27: sixty behind", x.halfDone(1, 1), -3);
        due("27: the first is told first", x.halfDone(2, 2), -2);
        due("27: not yet sixty", x.halfDone(0, 3), -2);
        due("27: and reckoned", x.halfDone(0, 2) > 0, true);
        x.days(1);
        due("27: a day later", x.halfDone(1, 1) > 0, true);
        due("27: and ahead of it", x.halfDone(2, 1), -2);
        int[][] wrong = {{0, 0}, {0, 21}, {3, 1}, {4, 1}, {-1, 1}, {10, 1}};
        for (int[] w : wrong) {
            due("27: halfDone(" + w[0] + ", " + w[1] + ")", x.halfDone(w[0], w[1]), NO);
        }
        x.home();
        due("27: no leave", x.halfDone(0, 1), NO);
    }

    private static void byTurns() {
        MissedTown x = three("a0-5,c0-5");
        Checks.law(x, "m1+i(d<1);m10(1=1)");
        due("28: missed", x.byTurns(3, 1, 10), 14);
        due("28: first", x.byTurns(3, 1, 0), 0);
        due("28: second", x.byTurns(3, 1, 1), 1);
        Checks.law(x, "m10(d<1);m1+i(1=1)");
        due("28: missed", x.byTurns(3, 1, 10), 14);
        due("28: first", x.byTurns(3, 1, 0), 1);
        due("28: second", x.byTurns(3, 1, 1), 0);
        // By 10 on day 0 (a 2 units, b 1, c 5), else by 4 for a, 3 for b, 12 for c: b ahead of all, then a, c.
        due("28: three, missed", x.byTurns(7, 1, 10), 26);
        due("28: three, first", x.byTurns(7, 1, 0), 1);
        due("28: three, second", x.byTurns(7, 1, 1), 0);
        due("28: three, third", x.byTurns(7, 1, 2), 2);
        x.person(3, 0);
        due("28: four, first", x.byTurns(15, 1, 0), 3);
        due("28: four, second", x.byTurns(15, 1, 1), 0);
        due("28: four, last", x.byTurns(15, 1, 3), 2);
        due("28: four, missed", x.byTurns(15, 1, 10), 19);
        due("28: ten days each", x.byTurns(15, 10, 10), 190);
        x.person(4, 0);
        int[][] wrong = {{1, 1, 10}, {31, 1, 10}, {33, 1, 10}, {3, 0, 10}, {3, 11, 10}, {3, 1, 2}, {3, 1, -1}, {3, 1, 9}, {3, 1, 11},
            {0, 1, 10}, {-1, 1, 10}, {1027, 1, 10}};
        for (int[] w : wrong) {
            due("28: byTurns(" + w[0] + ", " + w[1] + ", " + w[2] + ")", x.byTurns(w[0], w[1], w[2]), -1);
        }
    }

    private static void firstDoer() {
        MissedTown x = three("a0-0");
        due("29: nobody", x.firstDoer(0, 1, 0), -2);
        due("29: missed as ever", x.firstDoer(0, 1, 1), 4);
        x.person(3, 9);
        due("29: d at 0", x.firstDoer(0, 1, 0), 3);
        due("29: missed then", x.firstDoer(0, 1, 1), 0);
        due("29: d at 2", x.firstDoer(2, 1, 0), 3);
        due("29: missed then", x.firstDoer(2, 1, 1), 1);
        x.person(4, 9);
        due("29: of like ones the lowest", x.firstDoer(0, 1, 0), 3);
        Checks.leaves(x, "a0-0,d0-0");
        due("29: all going", x.firstDoer(0, 1, 0), 4);
        int[][] wrong = {{3, 1, 0}, {-1, 1, 0}, {12, 1, 0}, {0, 0, 0}, {0, 61, 0}, {0, 1, 2}, {0, 1, -1}};
        for (int[] w : wrong) {
            due("29: firstDoer(" + w[0] + ", " + w[1] + ", " + w[2] + ")", x.firstDoer(w[0], w[1], w[2]), -1);
        }
    }

    private static void seed() {
        MissedTown x = new MissedTown();
        due("30: lowest", x.seed(0), true);
        due("30: X", x.count(7), 0);
        x.days(1);
        due("30: X then", x.count(7), 13849);
        due("30: highest", x.seed(65535), true);
        x.days(1);
        due("30: X then", x.count(7), 54212);
        due("30: below", x.seed(-1), false);
        due("30: above", x.seed(65536), false);
        due("30: stays", x.count(7), 54212);
    }

    private static void keepAndUndo() {
        MissedTown x = three(APART);
        x.days(1);
        due("31: the day", x.keep(), 1);
        x.days(2);
        x.home();
        x.chore(1, 9);
        x.person(0, 1);
        x.rain(4);
        due("32: as it was", x.undo(), true);
        due("32: the day", x.count(0), 1);
        due("32: missed", x.count(1), 4);
        due("32: X", x.count(7), 39022);
        due("32: leaves", x.count(9), 7);
        due("32: first", x.personIs(1, 1), 1);
        due("32: undone of 0", x.choreIs(0, 1), 1);
        due("32: undone of 1", x.choreIs(1, 1), 0);
        due("32: what is told stays", x.choreIs(1, 0), 9);
        due("32: the cap stays", x.personIs(0, 0), 1);
        due("32: the rain stays", x.count(8), 4);
        x.days(5);
        due("32: once more", x.undo(), true);
        due("32: the day", x.count(0), 1);
        x.days(3);
        due("31: kept last", x.keep(), 4);
        x.days(3);
        x.undo();
        due("32: kept last", x.count(0), 4);
        x.chore(0, 3);
        x.feed(1, 2, 3, 4, 5);
        x.undo();
        due("32: the tape stays", x.count(6), 20);
    }

    private static void check() {
        MissedTown x = three("c0-0");
        x.days(1);
        due("33: right", Checks.check(x, 0, 3, 2), -1);
        due("33: the first", Checks.check(x, 1, 3, 1), 0);
        due("33: the third", Checks.check(x, 0, 3, 1), 2);
        due("33: not told 0", Checks.check(x, 0, 3, 2, 0, 0, 0, 0, 0, 0, 0, 0, 0), -1);
        due("33: not told 1", Checks.check(x, 0, 3, 2, 0, 0, 0, 0, 0, 0, 0, 0, 1), 11);
        due("33: none, of nothing", x.check(0), -1);
        due("33: not so many", x.check(1), -2);
        x.feed(0, 0, 0, 0, 0);
        for (int n : new int[] {-1, 13, 21, Integer.MIN_VALUE}) {
            due("33: check(" + n + ")", x.check(n), -2);
            due("33: the tape stays", x.count(6), 20);
        }
        due("33: none", x.check(0), -1);
        due("33: empty then", x.count(6), 0);
    }

    private static void count() {
        MissedTown x = three("a0-1,b1-2,h0-3");
        x.rain(7);
        x.days(1);
        x.feed(0, 0, 0, 0, 0);
        int[] want = {1, x.count(1), 7, 7, 1 | 2 | 1 << 7, 1, 20, 39022, 7, 1 | 2 | 1 << 7};
        for (int what = 0; what < want.length; what++) {
            due("34: count(" + what + ")", x.count(what), want[what]);
        }
        due("34: missed", x.count(1), 4);
        due("34: above", x.count(10), -1);
        due("34: below", x.count(-1), -1);
        due("34: lowest", x.count(Integer.MIN_VALUE), -1);
    }
}
