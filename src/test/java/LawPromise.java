/** Promise 6, THE LAW: its faults, and what it says. */
final class LawPromise {
    private LawPromise() {
    }

    static void all() {
        faults();
        limits();
        values();
        conditions();
        letters();
        refused();
        kinds();
        tape();
    }

    private static void due(String call, long got, long want) {
        Checks.due(call, got, want);
    }

    private static void faults() {
        MissedTown x = new MissedTown();
        due("6: a law", Checks.law(x, "m1(1=1);k(u>3)"), 2);
        String[] texts = {"x", "(", "m", "m1", "m(1=1)", "k1(1=1)", "k", "k(", "k()", "k(1", "k(1=", "k(1=1", "k(1=1)x", "k(1=1);",
            "k(1=1);x", "k(1=1)k(1=1)", "k(1=1=1)", "k(1)", "k(1=1&)", "k(1=1|)", "k(&1=1)", "k(!)", "k(1=1!)", "k(1<=1)",
            "k([1=1])", "k([1)=1)", "k((1)=1)", "k(-1=1)", "k(1+=1)", "k(1 =1)", "mb(1=1)", "m1+(1=1)", "m[1(1=1)", "m1](1=1)",
            "m123456(1=1)", "m1+000000(1=1)", "m(1)(1=1)", "k(i=u*)", "m1;k(1=1)", "n!1(1=1)", "K(1=1)", "k(1=1))", "k(1=1)&"};
        int[] faults = {-1000, -1000, -1001, -1002, -1001, -1001, -1001, -1002, -1002, -1003, -1004, -1005, -1006, -1007,
            -1007, -1006, -1005, -1003, -1006, -1006, -1002, -1003, -1005, -1004,
            -1004, -1004, -1004, -1002, -1004, -1003, -1001, -1003, -1003, -1002,
            -2006, -2008, -1001, -1006, -1002, -1001, -1000, -1006, -1006};
        for (int k = 0; k < texts.length; k++) {
            due("6: " + texts[k], Checks.law(x, texts[k]), faults[k]);
            due("6: the tape is empty", x.count(6), 0);
            due("6: the one before stays", x.count(5), 2);
        }
        due("6: it does", x.chore(0, 4) ? x.tried(1, 0) : 0, 4);
    }

    private static void limits() {
        MissedTown x = new MissedTown();
        due("6: six open", Checks.law(x, "k((((((1=1))))))"), 1);
        due("6: a seventh (", Checks.law(x, "k(((((((1=1)))))))"), -5007);
        due("6: a seventh [", Checks.law(x, "k((((((1=[1]))))))"), -5009);
        due("6: a sixth [", Checks.law(x, "k(((((1=[1])))))"), 1);
        due("6: a sixth !", Checks.law(x, "k(!!!!!1=1)"), 1);
        due("6: a seventh !", Checks.law(x, "k(!!!!!!1=1)"), -5007);
        due("6: a ! is closed behind its piece", Checks.law(x, "k(!!!!!1=1&!!!!!1=1|!!!!!(1=1))"), -5025);
        due("6: a ! is closed behind its piece", Checks.law(x, "k(!!!!!1=1&!!!!!1=1|!!!!(1=1))"), 1);
        due("6: within a !", Checks.law(x, "k(!!!!![1]=1)"), -5007);
        due("6: six [ ahead", Checks.law(x, "m[[[[[[1]]]]]]((((((1=1))))))"), 1);
        due("6: seven [ ahead", Checks.law(x, "m[[[[[[[1]]]]]]](1=1)"), -5007);
        due("6: closed again", Checks.law(x, "m[[[[[[1]]]]]]+[[[[[[1]]]]]](1=1)"), 1);
        due("6: five digits", Checks.law(x, "m00099(1=99999)"), 1);
        String sixteen = "k(1=1);".repeat(16);
        due("6: sixteen", Checks.law(x, sixteen.substring(0, 111)), 16);
        due("6: clauses", x.count(5), 16);
        due("6: a seventeenth", Checks.law(x, sixteen + "c"), -4112);
        due("6: no seventeenth", Checks.law(x, sixteen + "b"), -1112);
        due("6: the end", Checks.law(x, sixteen), -1112);
    }

    /** What a unit is missed by, in a town of one chore, of which 10 units are undone, on a day 9 without rain. */
    private static int missedBy(String e) {
        return tenUnits("m" + e + "(1=1)") / 10;
    }

    private static boolean holds(String c) {
        return tenUnits("m1(" + c + ")") == 10;
    }

    private static int tenUnits(String law) {
        MissedTown x = new MissedTown();
        x.chore(3, 10);
        Checks.leaves(x, "a9-9,b9-9,c9-9,d0-8");
        x.days(9);
        int clauses = Checks.law(x, law);
        due("6: clauses of " + law, clauses > 0 ? 1 : clauses, 1);
        return x.tried(1, 0);
    }

    private static void values() {
        // By 32 bits 99999 times 99999 is 1409865409 and 50000 times 50000 is -1794967296.
        String[] texts = {"7", "99", "100", "0-1", "2+3*4", "[2+3]*4", "20-5-3", "20-[5-3]", "60/4/3", "60/[4/3]", "17%5*4", "17*4%5",
            "7/2*2", "[0-7]/2+10", "[0-7]%4+10", "99999*99999/99999", "50000*50000/10000/10000+50", "i", "p", "x", "d", "w", "r", "a",
            "u", "i+x*2-d", "00012", "[[3]]", "65536*65536+5", "1/0", "5+1%0", "5+[1/0]*0", "5+0*[1/[u-10]]", "[0-65536*32768]/[0-1]%100"};
        int[] want = {7, 99, 99, 0, 14, 20, 12, 18, 5, 60, 8, 3,
            6, 7, 7, 99, 33, 3, 0, 10, 9, 2, 0, 3,
            10, 14, 12, 3, 5, 0, 0, 0, 0, 0};
        for (int k = 0; k < texts.length; k++) {
            due("6: missed by " + texts[k], missedBy(texts[k]), want[k]);
        }
    }

    private static void conditions() {
        String[] hold = {"1=1", "1<2", "2>1", "!1=2", "!!1=1", "(1=1)", "1=2|1=1", "1=1&2=2", "1=2&1=2|1=1", "1=1|1=2&1=2", "!(1=1&1=2)",
            "!1=2&1=1", "0-1<0", "i=3&x=10&d=9&w=2&r=0&a=3&u=10&p=0", "1=1|1/0=1", "1=2|1=1|1/0=1", "!(1=2&1/0=1)", "1=2&1/0=1|1=1",
            "99999*99999>0", "50000*50000<0"};
        String[] not = {"1=2", "1<1", "1>1", "2<1", "!1=1", "1=2|2=1", "1=1&1=2", "(1=1|1=1)&1=2", "!(1=2|1=1)", "!1=1&1=1", "1/0=0", "1%0=0",
            "!1/0=0", "!(1/0=0)", "1/0=0|1=1", "1=1&1/0=0", "1=1&(1/0=0|1=1)", "(1=2|1/0=1)|1=1", "!(1=2|!(1/0=1))"};
        for (String c : hold) {
            Checks.due("6: holds " + c, holds(c), true);
        }
        for (String c : not) {
            Checks.due("6: does not hold " + c, holds(c), false);
        }
    }

    /** Which letters are told where: i in m, n, k; p in c; x the AMOUNT or the CAP; u not in c. */
    private static void letters() {
        MissedTown x = new MissedTown();
        x.person(4, 6);
        x.chore(2, 20);
        Checks.doers(x, "2:e");
        Checks.law(x, "ci*10+p+u(x=6);m1(1=1)");
        due("6: c", x.tried(1, 34), 4);
        Checks.law(x, "ni*10+p(x=20);m1(1=1)");
        due("6: n", x.tried(1, 12), 14);
        x.days(1);
        Checks.law(x, "nu+1(u=14);m1(1=1)");
        due("6: u in n is that of the day before", x.tried(1, 12), 9);
        Checks.law(x, "nx(1=1);k(u=14&i=2&p=0&x=20);m1(u=28)");
        due("6: u in k is that of the day before", x.tried(1, 12), 28);
        due("6: u in m is that of this day", x.tried(1, 0), 28);
        Checks.law(x, "n5(w=1&d=1&r=1&a=0);n7(1=1);cr*3(1=1)");
        x.rain(10);
        due("6: w, d, r", x.tried(1, 12), 2);
        due("6: on the next day", x.tried(2, 12), 4);
        due("6: on the next week's", x.tried(8, 12), 4);
    }

    /** A clause whose C is refused does not hold, so the next one is asked; one whose E is refused answers 0. */
    private static void refused() {
        due("6: the next clause", tenUnits("m5(1/r=1);m3(1=1)"), 30);
        due("6: an E that is refused", tenUnits("m5/r(1=1);m3(1=1)"), 0);
        due("6: the first that holds", tenUnits("m5(1=2);m4(1=1);m3(1=1)"), 40);
        due("6: none holds", tenUnits("m5(1=2)"), 0);
        due("6: k, any will do", tenUnits("k(1/r=1);k(1=2);k(u=10);m1(1=1)"), 20);
        due("6: k, none does", tenUnits("k(1/r=1);k(1=2);m1(1=1)"), 10);
        due("6: without a k", tenUnits("m1(1=1)"), 10);
        due("6: n that is refused", tenUnits("nx/r(1=1);m1(1=1)"), 0);
    }

    private static void kinds() {
        MissedTown x = new MissedTown();
        x.person(0, 5);
        x.chore(0, 7);
        Checks.doers(x, "0:a");
        due("6: without a law", x.tried(1, 2), 2);
        due("6: m is 0", x.tried(1, 0), 0);
        Checks.law(x, "c6(d=1);n9(d=2)");
        int[] left = {2, 1, 4, 2};
        for (int day = 0; day < left.length; day++) {
            due("6: left on " + day, x.tried(day + 1, 2), left[day]);
        }
        Checks.law(x, "c0-5(1=1);n500(1=1);m500(1=1)");
        due("6: n 99 at most, c 0 at least", x.tried(1, 2), 99);
        due("6: m 99 at most", x.tried(1, 0), 9801);
        Checks.law(x, "c500(1=1);n0-1(1=1);m0-9(1=1)");
        due("6: n 0 at least", x.tried(1, 2), 0);
        Checks.law(x, "c500(1=1);n99(1=1)");
        due("6: c 99 at most", x.tried(1, 30), 99);
    }

    private static void tape() {
        MissedTown x = new MissedTown();
        String long240 = "m1(" + "1=1&".repeat(58) + "1=1)";
        due("6: none there", x.law(1), -1);
        due("6: 239 bytes", Checks.law(x, long240), 1);
        due("6: 240 bytes", Checks.law(x, long240.replace("m1(", "m11(")), 1);
        Checks.feed(x, long240.replace("m1(", "m111("));
        int[] wrong = {Integer.MIN_VALUE, -1, 0, 241, 261};
        for (int n : wrong) {
            due("6: law(" + n + ")", x.law(n), -1);
            due("6: the tape stays", x.count(6), 260);
        }
        due("6: cut off", x.law(240), -1240);
        due("6: empty", x.count(6), 0);
        x.chore(0, 1);
        due("6: the one before stays", x.tried(1, 0), 11);
    }
}
