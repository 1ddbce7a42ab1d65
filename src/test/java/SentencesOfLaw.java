/** The Terms' sentences on THE LAW. */
final class SentencesOfLaw {
    private static final String DIGITS = "0123456789";
    private static final String LETTERS = "ipxdwrau";
    private static final String KINDS = "mnck";
    private static final String SUMS = "+-*/%";
    private static final String FACTOR = DIGITS + LETTERS + "[";
    private static final String PIECE = FACTOR + "!(";
    private static final String SIXTEEN = "k(1=1);".repeat(15) + "k(1=1)";
    /** What stands for 2147483647, the most that 32 bits can hold; one less than below 0 is -2147483648. */
    private static final String MOST = "[46340*46340+88047]";
    private static final String LEAST = "[0-46340*46340-88048]";

    private SentencesOfLaw() {
    }

    static void all() {
        Sentence.of("Terms", "THE LAW: a TEXT of at most 240 bytes, no blanks (none at first):", SentencesOfLaw::bytes);
        Sentence.of("Terms", "CLAUSES (16 at most) with a ; (59) between two: a letter, E, and (C), of k only (C):", SentencesOfLaw::clauses);
        Sentence.of("Terms", "m how much a unit is missed that is UNDONE (0 to 99),", SentencesOfLaw::missing);
        Sentence.of("Terms", "n units that are needed (0 to 99),", SentencesOfLaw::needed);
        Sentence.of("Terms", "c units that a PERSON can do (0 to 99),", SentencesOfLaw::can);
        Sentence.of("Terms", "k what is UNDONE is to be done on the next DAY, too (any will do; without a k in THE LAW it is not):",
                SentencesOfLaw::carried);
        Sentence.of("Terms", "of the first CLAUSE of m, n, c whose C holds the E (beyond its bounds the bound; none: m 0, n the AMOUNT, c the CAP).",
                SentencesOfLaw::firstThatHolds);
        Sentence.of("Terms", "C: PARTS with a | between two, one of which must hold; a PART: PIECES with an & between two, all of which must;"
                + " a PIECE: !PIECE, (C), or E, one of < > =, and E.", SentencesOfLaw::conditions);
        Sentence.of("Terms", "E: TERMS with + or - between two; a TERM: FACTORS with one of * / % between two; from the left on;",
                SentencesOfLaw::fromTheLeft);
        Sentence.of("Terms", "a FACTOR: [E], a number of one to five digits, or a letter:", SentencesOfLaw::factors);
        Sentence.of("Terms", "i the CHORE (in m, n, k), p the PERSON (in c), x AMOUNT or CAP, d THE DAY, w THE DAY modulo 7, r whether it rains (1, 0),",
                SentencesOfLaw::letters);
        Sentence.of("Terms", "a how many PEOPLE are away,", SentencesOfLaw::away);
        Sentence.of("Terms", "u units that are UNDONE (in m those of this DAY; in n, k those of the DAY before).", SentencesOfLaw::undone);
        Sentence.of("Terms", "(Where they are not told they are 0.)", SentencesOfLaw::notTold);
        Sentence.of("Terms", "All is reckoned with 32 bits, as the machine does;", SentencesOfLaw::wraps);
        Sentence.of("Terms", "what is divided by 0 is REFUSED: then a C does not hold, an E is 0.", SentencesOfLaw::refused);
        Sentence.of("Terms", "Of a C as much is asked, from the left, as matters.", SentencesOfLaw::asMatters);
        Sentence.of("Terms", "FAULTS, the first from the left: 1 what can't stand there (the end, too); 2", SentencesOfLaw::faults);
        Sentence.of("Terms", "FAULTS, the first from the left: 1 what can't stand there (the end, too); 2", SentencesOfLaw::firstFault);
        Sentence.of("Terms", "2 a sixth digit, at it;", SentencesOfLaw::sixthDigit);
        Sentence.of("Terms", "4 a 17th CLAUSE, at its letter (if that can stand there);", SentencesOfLaw::seventeenth);
        Sentence.of("Terms", "5 a seventh of ( [ ! that are open in one another, at it (the ( of the CLAUSE counts;", SentencesOfLaw::seventhOpen);
        Sentence.of("Terms", "a ! is open till its PIECE ends;", SentencesOfLaw::openNot);
        Sentence.of("Terms", "the E of a CLAUSE stands ahead of it).", SentencesOfLaw::aheadOfIt);
    }

    private static void due(String call, long got, long want) {
        Checks.due(call, got, want);
    }

    /** A town of one CHORE, 3, of which all 10 units are undone, on DAY 9; a, b and c are away. */
    private static int missedBy(String law) {
        MissedTown x = new MissedTown();
        x.chore(3, 10);
        Checks.leaves(x, "a9-9,b9-9,c9-9,d0-8");
        x.days(9);
        int clauses = Checks.law(x, law);
        due("clauses of " + law, clauses > 0 ? 1 : clauses, 1);
        return x.tried(1, 0);
    }

    private static void hold(boolean want, String... conditions) {
        for (String c : conditions) {
            due(c, missedBy("m1(" + c + ")"), want ? 10 : 0);
        }
    }

    private static void laws(String[] texts, int... wants) {
        SentencesOfTexts.texts(Checks::law, texts, wants);
    }

    private static void bytes() {
        MissedTown x = new MissedTown();
        due("none at first", x.count(5), 0);
        x.chore(0, 1);
        due("nothing is missed", x.tried(1, 0), 0);
        String most = "m11(" + "1=1&".repeat(58) + "1=1)";
        due("240 bytes", most.length(), 240);
        due("are read", Checks.law(x, most), 1);
        due("to the last", x.tried(1, 0), 11);
        Checks.feed(x, "m12(" + "1=1&".repeat(57) + "1=1&11=11)");
        due("241 are not", x.law(242), -1);
        due("241 are not", x.law(241), -1);
        due("and stay", x.count(6), 260);
        due("240 of them are", x.law(240), -1240);
        due("the law before stays", x.tried(1, 0), 11);
        laws(new String[] {" m1(1=1)", "m 1(1=1)", "m1 (1=1)", "m1( 1=1)", "m1(1 =1)", "m1(1= 1)", "m1(1=1 )", "m1(1=1) ", "m1(1=1); k(1=1)", "m1(1=1)\n"},
                -1000, -1001, -1002, -1003, -1004, -1005, -1006, -1007, -1008, -1007);
    }

    private static void clauses() {
        for (int n = 1; n <= 16; n++) {
            MissedTown x = new MissedTown();
            due(n + " clauses", Checks.law(x, SIXTEEN.substring(0, 7 * n - 1)), n);
            due("count", x.count(5), n);
        }
        due("a 17th", Checks.law(new MissedTown(), SIXTEEN + ";k(1=1)"), -4112);
        laws(new String[] {"m1(1=1);n2(1=1);c3(1=1);k(1=1)", "m1(1=1):n2(1=1)", "m1(1=1)n2(1=1)", "m1(1=1);;n2(1=1)", ";m1(1=1)", "m1(1=1);", "m(1=1)",
            "n(1=1)", "c(1=1)", "k1(1=1)", "k(1=1)", "m1", "m1()", "m11=1", "l1(1=1)", "M1(1=1)", "1(1=1)", "kk(1=1)"},
                4, -1007, -1007, -1008, -1000, -1008, -1001,
                -1001, -1001, -1001, 1, -1002, -1003, -1003, -1000, -1000, -1000, -1001);
        due("the sixteenth counts", missedBy("m2(1=2);".repeat(15) + "m9(1=1)"), 90);
    }

    private static void missing() {
        String[] sums = {"0-1", "0", "1", "98", "99", "100", "99999", "0-99999", "99999*20000", MOST, LEAST};
        int[] wants = {0, 0, 1, 98, 99, 99, 99, 0, 99, 99, 0};
        for (int k = 0; k < sums.length; k++) {
            due("m" + sums[k], missedBy("m" + sums[k] + "(1=1)"), 10 * wants[k]);
        }
        MissedTown x = SentencesOfDays.one(5, 5);
        Checks.law(x, "m99(1=1)");
        due("nothing is undone", x.tried(60, 0), 0);
    }

    private static void needed() {
        String[] sums = {"0-1", "0", "1", "98", "99", "100", "99999", "0-99999", MOST, LEAST};
        int[] wants = {0, 0, 1, 98, 99, 99, 99, 0, 99, 0};
        for (int k = 0; k < sums.length; k++) {
            due("n" + sums[k], missedBy("m1(1=1);n" + sums[k] + "(1=1)"), wants[k]);
        }
    }

    private static void can() {
        String[] sums = {"0-1", "0", "1", "98", "99", "100", "99999", "0-99999", MOST, LEAST};
        int[] wants = {0, 0, 1, 98, 99, 99, 99, 0, 99, 0};
        for (int k = 0; k < sums.length; k++) {
            MissedTown x = SentencesOfDays.one(7, 0);
            x.chore(1, 0);
            Checks.doers(x, "1:a");
            Checks.law(x, "n99(1=1);c" + sums[k] + "(1=1)");
            due("c" + sums[k], x.tried(1, 30), wants[k]);
        }
    }

    private static void carried() {
        MissedTown x = SentencesOfDays.one(0, 3);
        x.days(1);
        due("without a k", x.tried(1, 10), 3);
        Checks.law(x, "m1(1=1);k(1=1)");
        Checks.law(x, "m1(1=1)");
        due("without a k, where there was one before", x.tried(1, 10), 3);
        String[] laws = {"k(1=1)", "k(1=2)", "k(1=2);k(1=1)", "k(1=1);k(1=2)", "k(1=2);k(2=3)", "k(1=2);m1(1=1);k(2=3);k(u=3)"};
        int[] wants = {6, 3, 6, 6, 3, 6};
        for (int k = 0; k < laws.length; k++) {
            Checks.law(x, laws[k]);
            due(laws[k], x.tried(1, 10), wants[k]);
        }
        Checks.law(x, "k(d=1|d=3)");
        int[] days = {6, 3, 6, 3};
        for (int n = 1; n <= 4; n++) {
            due("by days", x.tried(n, 10), days[n - 1]);
        }
    }

    private static void firstThatHolds() {
        due("the first", missedBy("m5(1=1);m3(1=1)"), 50);
        due("the first that holds", missedBy("m5(1=2);m3(1=1);m2(1=1)"), 30);
        due("the last", missedBy("m5(1=2);m3(2=1);m2(1=1)"), 20);
        due("of its own kind", missedBy("c5(1=1);n7(1=2);k(1=1);m2(1=1);n4(1=1)"), 28);
        due("m none", missedBy("m5(1=2);n7(1=1)"), 0);
        due("n none: the AMOUNT", missedBy("n5(1=2);m1(1=1)"), 10);
        MissedTown x = SentencesOfDays.one(7, 20);
        Checks.law(x, "c5(1=2);m1(1=1)");
        due("c none: the CAP", x.tried(1, 30), 7);
        Checks.law(x, "c5(1=2);c9(d=1);c2(1=1)");
        due("c of the third", x.tried(1, 30), 2);
        due("c of the second", x.tried(2, 30), 11);
        due("a bound is not passed over", missedBy("m0-5(1=1);m3(1=1)"), 0);
    }

    private static void conditions() {
        hold(true, "1=1", "1<2", "2>1", "1=2|1=1", "1=1|1=2", "1=1&2=2", "1=2|1=2|1=1", "1=1&1=1&1=1", "1=1|1=2&1=2", "1=2&1=2|1=1", "(1=1)", "((1=1))",
                "!1=2", "!!1=1", "!(1=2)", "!(1=1&1=2)", "!1=2&1=1", "!1=1|1=1", "(1=2|1=1)&1=1", "!(1=1)|1=1", "1+1=2", "1<1+1", "!1<1", "!1>1", "1<2&2>1",
                "!!1<2", "!!2>1", "1<2&1=1", "2>1&1=1");
        hold(false, "1=2", "1<1", "1>1", "2<1", "1>2", "1=2|2=1", "1=1&1=2", "1=2&1=1", "1=1&1=1&1=2", "(1=1|1=1)&1=2", "1=2&(1=1|1=1)", "!1=1", "!!1=2",
                "!(1=1|1=2)", "!1=1&1=1", "!1=1|1=2", "(1=2)", "!(1=2)&1=2", "!1<2", "!2>1", "1<2&1=2", "2>1&1=2",
                "!(1<2)", "!(2>1|1=2)");
    }

    private static void fromTheLeft() {
        String[] sums = {"9-4-3", "9-[4-3]", "9-4+3", "48/4/3", "48/[4/3]", "48/4*3", "4*48/3", "17%7*2", "17*2%7", "17%[7*2]", "2+3*4", "3*4+2", "[2+3]*4", "20-2*3",
            "20-9/2", "7/2*2", "7%4%2", "50-17%5", "2*3+4*5", "99/10/3%2"};
        int[] wants = {2, 8, 8, 4, 48, 36, 64, 6, 6, 3, 14, 14, 20, 14,
            16, 6, 1, 48, 26, 1};
        for (int k = 0; k < sums.length; k++) {
            due(sums[k], missedBy("m" + sums[k] + "(1=1)"), 10 * wants[k]);
        }
    }

    private static void factors() {
        String[] sums = {"[7]", "[[7]]", "[3+4]", "7", "07", "00007", "99999-99990", "10000/1000", "i", "[i]", "0", "00000"};
        int[] wants = {7, 7, 7, 7, 7, 7, 9, 10, 3, 3, 0, 0};
        for (int k = 0; k < sums.length; k++) {
            due(sums[k], missedBy("m" + sums[k] + "(1=1)"), 10 * wants[k]);
        }
        hold(true, "99999+1=10*10000", "12345=12345", "1=00001");
        laws(new String[] {"m[](1=1)", "m[7(1=1)", "m7](1=1)", "m(7)(1=1)", "m-7(1=1)", "m7+(1=1)", "mii(1=1)", "m7i(1=1)", "mi7(1=1)", "m[7]i(1=1)", "m100000(1=1)",
            "mb(1=1)", "mm(1=1)", "mI(1=1)", "m7.5(1=1)"},
                -1002, -1003, -1002, -1001, -1001, -1003, -1002, -1002, -1002, -1004, -2006,
                -1001, -1001, -1001, -1002);
    }

    private static void letters() {
        MissedTown x = new MissedTown();
        x.person(9, 20);
        x.person(0, 4);
        x.chore(0, 3);
        x.chore(11, 20);
        x.rain(3);
        Checks.law(x, "ni(1=1);m1(1=1)");
        due("i in n of chore 0", x.tried(1, 10), 0);
        due("i in n of chore 11", x.tried(1, 21), 11);
        Checks.law(x, "mi(1=1)");
        due("i in m", x.tried(1, 0), 220);
        Checks.law(x, "nx+1(1=1)");
        due("x in n of chore 0", x.tried(1, 10), 4);
        due("x in n of chore 11", x.tried(1, 21), 21);
        Checks.law(x, "mx(1=1)");
        due("x in m", x.tried(1, 0), 409);
        Checks.doers(x, "11:j;0:a");
        Checks.law(x, "cp(1=1);n50(1=1)");
        due("p in c of person 0", x.tried(1, 30), 0);
        due("p in c of person 9", x.tried(1, 39), 9);
        Checks.law(x, "cx+1(1=1);n50(1=1)");
        due("x in c of person 0", x.tried(1, 30), 5);
        due("x in c of person 9", x.tried(1, 39), 21);
        Checks.law(x, "m1(d=6&w=6|d=7&w=0|d=13&w=6|d=14&w=0);n1(i=0);n0(1=1);c0(1=1)");
        due("d and w", x.tried(20, 0), 4);
        // With three tenths of rain it rains on days 0, 4 and 8 of the first ten.
        Checks.law(x, "m1(r=1&(d=0|d=4|d=8));m50(r=1);m50(!r=0);n1(i=0);n0(1=1);c0(1=1)");
        due("r is 1", x.tried(10, 0), 3);
        Checks.law(x, "mr*9(1=1);n1(i=0);n0(1=1);c0(1=1)");
        due("r is 1 or 0", x.tried(10, 0), 27);
        lettersOfCarrying();
    }

    private static void lettersOfCarrying() {
        MissedTown x = new MissedTown();
        x.chore(0, 3);
        x.chore(11, 20);
        x.days(1);
        Checks.law(x, "k(i=11&x=20&d=1&w=1&r=0&a=0&u=20&p=0)");
        due("in k of chore 0", x.tried(1, 10), 3);
        due("in k of chore 11", x.tried(1, 21), 40);
    }

    private static void away() {
        MissedTown x = SentencesOfDays.one(0, 1);
        Checks.law(x, "ma(1=1)");
        due("nobody", x.tried(1, 0), 0);
        Checks.leaves(x, "a0-1,b1-2,j1-1");
        int[] wants = {1, 3, 1, 0};
        for (int want : wants) {
            due("on day " + x.count(0), x.days(1), want);
        }
        Checks.leaves(x, "a0-9,b0-9,c0-9,d0-9,e0-9,f0-9,g0-9,h0-9,i0-9,j4-9");
        due("all ten", x.days(1), 10);
        x.person(1, 1);
        x.chore(1, 19);
        Checks.doers(x, "1:b");
        Checks.law(x, "ca(1=1);na(1=1);m1(a=9)");
        Checks.leaves(x, "a0-9,c0-9,d0-9");
        due("in c and n", x.tried(1, 31), 3);
    }

    private static void undone() {
        MissedTown x = SentencesOfDays.one(1, 5);
        Checks.law(x, "mu(1=1)");
        due("in m those of this day", x.days(1), 16);
        Checks.law(x, "nu+3(u=4);mu(u=6)");
        due("in n those of the day before", x.tried(1, 10), 6);
        due("in m those of this day", x.tried(1, 0), 36);
        Checks.law(x, "k(u=4);mu(u=8)");
        due("in k those of the day before", x.tried(1, 10), 8);
        due("in m those of this day", x.tried(1, 0), 64);
        x.chore(0, 5);
        Checks.law(x, "nu(1=1)");
        due("nothing undone of the day before", x.tried(1, 10), 0);
    }

    private static void notTold() {
        MissedTown x = new MissedTown();
        x.person(0, 0);
        x.person(9, 7);
        x.chore(5, 20);
        x.chore(11, 20);
        Checks.doers(x, "11:j");
        x.days(1);
        Checks.law(x, "mp(1=1)");
        due("p in m", x.tried(1, 0), 0);
        Checks.law(x, "n9(p=0);n1(1=1)");
        due("p in n", x.tried(1, 15), 9);
        Checks.law(x, "k(p=0)");
        due("p in k", x.tried(1, 15), 40);
        Checks.law(x, "c2(i=0&u=0);c5(1=1)");
        due("i and u in c", x.tried(1, 39), 2);
        due("on the next day, too", x.tried(2, 39), 4);
    }

    private static void wraps() {
        hold(true, MOST + ">0", MOST + "+1<0", MOST + "+1=" + LEAST, LEAST + "<0", LEAST + "-1>0", LEAST + "-1=" + MOST, "46341*46341<0", "46340*46340>0",
                "65536*65536=0", "65536*32768<0", "65536*32768=" + LEAST, LEAST + "*[0-1]=" + LEAST, LEAST + "/[0-1]=" + LEAST, LEAST + "%[0-1]=0",
                LEAST + "<" + MOST, MOST + ">" + LEAST, "!" + LEAST + ">" + MOST, "[0-7]/2=0-3", "[0-7]%2=0-1", "7/[0-2]=0-3", "7%[0-2]=1", "[0-7]/[0-2]=3",
                "99999*99999/65536=21512", "99999*99999%65536=54977", "0-" + LEAST + "=" + LEAST, MOST + "*2=0-2", MOST + "*" + MOST + "=1");
        hold(false, MOST + "<0", MOST + "+1>0", LEAST + ">0", "46341*46341>0", "65536*65536>0", LEAST + ">" + MOST, "[0-7]/2=0-4", "[0-7]%2=1");
        due("an E that wraps to 5", missedBy("m65536*65536+5(1=1)"), 50);
        due("an E that wraps below 0", missedBy("m46341*46341(1=1)"), 0);
    }

    private static void refused() {
        hold(false, "1/0=0", "1%0=0", "0/0=0", "0%0=0", "0=1/0", "0=1%0", "1/r=0", "1/[u-10]=0", "1/[65536*65536]=0", "!1/0=0", "!(1/0=0)", "!!1/0=0",
                "1/0=0|1=1", "1=1&1/0=0", "(1/0=0)|1=1", "!(1=1&1/0=0)", "1=2|1/0=0", "5+0*[1/0]=5", "0/[1/2]=0", "1/0<1", "1/0>1", "1=2&1=1|1/0=0|1=1");
        String[] sums = {"1/0", "5%0", "5+1/0", "5+1%0", "5+[1/0]", "5+0*[1/0]", "1/0+5", "5/r", "99-1/[i-3]", "5/[1/2]"};
        for (String sum : sums) {
            due(sum, missedBy("m" + sum + "(1=1);m7(1=1)"), 0);
            due("n" + sum, missedBy("n" + sum + "(1=1);m1(1=1)"), 0);
        }
        due("the next clause", missedBy("m5(1/0=0);m3(1=1)"), 30);
        due("of n", missedBy("n5(1/0=0);n3(1=1);m1(1=1)"), 3);
        due("none: the AMOUNT", missedBy("n5(1%0=0);m1(1=1)"), 10);
        due("of k", missedBy("k(1/0=0);m1(1=1)"), 10);
        due("another k", missedBy("k(1/0=0);k(1=1);m1(1=1)"), 20);
        MissedTown x = SentencesOfDays.one(7, 20);
        Checks.law(x, "c5/0(1=1)");
        due("c is 0", x.tried(1, 30), 0);
        Checks.law(x, "c5(1/0=0)");
        due("c is the CAP", x.tried(1, 30), 7);
        Checks.law(x, "c5/d(1=1)");
        due("only on day 0", x.tried(2, 30), 5);
    }

    private static void asMatters() {
        hold(true, "1=1|1/0=0", "1=2|1=1|1/0=0", "1=1|1=1&1/0=0", "(1=1|1/0=0)&1=1", "!(1=2&1/0=0)", "1=2&1/0=0|1=1", "1=2&(1/0=0|1=1)|1=1",
                "(1=2&1/0=0)|1=1", "!(1=1&1=2&1/0=0)", "1=1&(1=1|1/0=0)", "!1=1&1/0=0|1=1", "(1=1)|(1/0=0)", "!1=2|1/0=0",
                "1<2|1/0=0", "2>1|1/0=0");
        hold(false, "1=2&1/0=0", "1/0=0|1=1", "1/0=0&1=2|1=1", "1=1&1/0=0|1=1", "1=2|1/0=0|1=1", "!(1=1|1/0=0)", "1=2&1=1&1/0=0", "(1=2|1/0=0)|1=1");
    }

    private static void faults() {
        SentencesOfTexts.everyEnd(Checks::law, "m12*i(!1<[2]&(x>3));k(u=4)", new int[] {-1001, -1002, -1003, -1004, -1005, -1006, -1007, -1008, -1009, -1010, -1011,
            -1012, -1013, -1014, -1015, -1016, -1017, -1018, 1, -1020, -1021, -1022, -1023, -1024, -1025, 2});
        String inSum = DIGITS + SUMS;
        SentencesOfTexts.everyByte(Checks::law, "n1(2=3);k(u>4)", new String[] {KINDS, FACTOR, inSum + "(", PIECE, inSum + "<>=", FACTOR, inSum + ")|&", ";", KINDS,
            "(", PIECE, SUMS + "<>=", FACTOR, inSum + ")|&"});
        SentencesOfTexts.everyByte(Checks::law, "m[1+2]*3(!(1=2)&3<4|5>6)", new String[] {KINDS, FACTOR, FACTOR, inSum + "]", FACTOR, inSum + "]", SUMS + "(", FACTOR,
            inSum + "(", PIECE, PIECE, PIECE, inSum + "<>=", FACTOR, inSum + ")|&", ")|&", PIECE, inSum + "<>=", FACTOR, inSum + ")|&", PIECE,
            inSum + "<>=", FACTOR, inSum + ")|&"});
    }

    private static void firstFault() {
        laws(new String[] {"m123456(((((((1=1", "k(((((((123456", "x123456", "m1x123456", "k(!!!!!!x", "m[[[[[[[123456", "m12345x6(1=1)", "m123456x(1=1)", SIXTEEN + ";k(((((((",
            SIXTEEN.replace("k(1=1);k", "k(1=y);k") + ";k", "k(1=1);x", "k(1=1)x;k(123456=1)"},
                -2006, -5007, -1000, -1002, -5007, -5007, -1006, -2006, -4112,
                -1004, -1007, -1006);
    }

    private static void sixthDigit() {
        laws(new String[] {"m12345(1=1)", "m123456(1=1)", "m000000(1=1)", "m1234567(1=1)", "m1(123456=1)", "m1(1=123456)", "m1+123456(1=1)", "m[123456](1=1)",
            "m123456", "m12345", "m1(1=1);n999999(1=1)", "m12345*12345(12345=12345)"},
                1, -2006, -2006, -2006, -2008, -2010, -2008, -2007,
                -2006, -1006, -2014, 1);
        for (char digit = '0'; digit <= '9'; digit++) {
            due("sixth digit " + digit, Checks.law(new MissedTown(), "c99999" + digit + "(1=1)"), -2006);
        }
    }

    private static void seventeenth() {
        for (char kind : KINDS.toCharArray()) {
            due("letter " + kind, Checks.law(new MissedTown(), SIXTEEN + ";" + kind), -4112);
        }
        laws(new String[] {SIXTEEN, SIXTEEN + ";", SIXTEEN + ";x", SIXTEEN + ";(", SIXTEEN + ";K", SIXTEEN + "k", SIXTEEN + ";mx", SIXTEEN + ";k(1=1)"},
                16, -1112, -1112, -1112, -1112, -1111, -4112, -4112);
    }

    private static void seventhOpen() {
        laws(new String[] {"k((((((1=1))))))", "k(((((((1=1)))))))", "k(((((([1]=1))))))", "k((((((!1=1))))))", "k(((((!1=1)))))", "k((((([1]=1)))))",
            "k(((((1=[1])))))", "k((((((1=[1]))))))", "k([[[[[1]]]]]=1)", "k([[[[[[1]]]]]]=1)", "k(!([[[1]]]=1))", "k(!([[[[1]]]]=1))", "k(!([[[[[1]]]]]=1))",
            "k(1=1&((((((1=1)))))))", "k(1=1&(((((1=1))))))", "k(((((1=1)))))|1=1)", "k(((((1=1))))&((((1=1)))))", "m1(((((((1=1)))))))", "k((((((("},
                1, -5007, -5007, -5007, 1, 1,
                1, -5009, 1, -5007, 1, -5007, -5007,
                -5011, 1, -1014, 1, -5008, -5007);
    }

    private static void openNot() {
        laws(new String[] {"k(!!!!!1=1)", "k(!!!!!!1=1)", "k(!!!!![1]=1)", "k(!!!!1=[1])", "k(!!!!!1=[1])", "k(!!!!!1=1&!!!!!1=1)", "k(!!!!!1=1|!!!!!1=1)",
            "k(!!!!!1=1&([1]=1))", "k(!!!!(1=1)&!!!!(1=1))", "k(!!!!!(1=1))", "k(!!!!([1]=1))", "k(!(!(!1=1)))", "k(!(!(!(1=1))))", "k(!(!1=1)&(((((1=1))))))"},
                1, -5007, -5007, 1, -5009, 1, 1,
                1, 1, -5007, -5007, 1, -5007, 1);
    }

    private static void aheadOfIt() {
        laws(new String[] {"m[[[[[[1]]]]]](1=1)", "m[[[[[[[1]]]]]]](1=1)", "m[[[[[[1]]]]]]((((((1=1))))))", "m[[[[[[1]]]]]](((((((1=1)))))))",
            "m[[[[[[1]]]]]]+[[[[[[1]]]]]](1=1)", "m1+[[[[[[[1]]]]]]](1=1)", "m[1+[1+[1+[1+[1+[1]]]]]](1=1)", "m[1+[1+[1+[1+[1+[1+[1]]]]]]](1=1)"},
                1, -5007, 1, -5020, 1, -5009, 1, -5019);
        due("six deep", missedBy("m[1+[1+[1+[1+[1+[1]]]]]](1=1)"), 60);
        due("six deep behind it", missedBy("m7((((([1]=1)))))"), 70);
        due("wide and deep", missedBy("m1+2*[9-1*[4/2+1*[1+1*[5-1*[2+1*[9-8]]]]]](1=1)"), 10 * (1 + 2 * (9 - (2 + (1 + (5 - (2 + 1)))))));
    }
}
