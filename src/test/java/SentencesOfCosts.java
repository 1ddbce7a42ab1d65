/** The sentences on what leaves cost: the Terms' second part, and promises 14 to 20. */
final class SentencesOfCosts {
    private static final int NO = -1000000000;

    private SentencesOfCosts() {
    }

    static void all() {
        terms();
        Sentence.of("Promise 14", "THE COST of a set of told PEOPLE (bits) in n DAYS", SentencesOfCosts::costOfToldOnes);
        Sentence.of("Promise 14", "(1 to 60, here and below); NONE: no such ones.", SentencesOfCosts::sixtyDays);
        Sentence.of("Promise 14", "(1 to 60, here and below); NONE: no such ones.", SentencesOfCosts::costRefused);
        Sentence.of("Promise 15", "By how much ONE is MISSED in n DAYS;", SentencesOfCosts::missed);
        Sentence.of("Promise 15", "-1000000000: no such ones, it has no LEAVE.", SentencesOfCosts::missedRefused);
        Sentence.of("Promise 16", "TOGETHER;", SentencesOfCosts::together);
        Sentence.of("Promise 16", "-1000000000: no such ones, one twice, one has no LEAVE.", SentencesOfCosts::togetherRefused);
        Sentence.of("Promise 17", "SHARES of a set in n DAYS,", SentencesOfCosts::shareOrders);
        Sentence.of("Promise 17", "what 0 above (may be below 0), 1 below the line, without a common divisor, of PERSON p of it;",
                SentencesOfCosts::shareAsFraction);
        Sentence.of("Promise 17", "who is ELECTED (what 2; p is not looked at);", SentencesOfCosts::shareElected);
        Sentence.of("Promise 17", "-1000000000: no such ones, one has no LEAVE.", SentencesOfCosts::shareRefused);
        Sentence.of("Promise 18", "SPOILT for PERSON p in n DAYS by PERSON q;", SentencesOfCosts::spoilt);
        Sentence.of("Promise 18", "who spoils it most (q 10; of like ones the lowest, above 0; -2: nobody);", SentencesOfCosts::spoiltMost);
        Sentence.of("Promise 18", "-1000000000: no such ones, one twice, p has no LEAVE.", SentencesOfCosts::spoiltRefused);
        Sentence.of("Promise 19", "WHEN TO LEAVE for told PERSON p (LEAVE or not), m DAYS (1 to 20), one of n DAYS (1 to 30), what 0 the DAY, 1 how much it is MISSED then;",
                SentencesOfCosts::whenBounds);
        Sentence.of("Promise 19", "-1000000000: no such ones.", SentencesOfCosts::whenRefused);
        Sentence.of("Promise 20", "AGAINST: PEOPLE p, q (LEAVES of both aside, those of others as they are), stretches (2 to 5) of m DAYS (1 to 10),",
                SentencesOfCosts::againstBounds);
        Sentence.of("Promise 20", "what 0 how many twos, 1, 2 stretches of p, q of the first (-2: none);", SentencesOfCosts::againstAlwaysSome);
        Sentence.of("Promise 20", "-1000000000: no such ones, one twice.", SentencesOfCosts::againstRefused);
    }

    private static void terms() {
        Sentence.of("Terms", "TRIED are n DAYS by the DRAWS that will come.", SentencesOfCosts::tried);
        Sentence.of("Terms", "THE COST of a set of PEOPLE in n DAYS: MISSED in them, if of all that have a LEAVE just those of the set go on it, and the others stay.",
                SentencesOfCosts::cost);
        Sentence.of("Terms", "ONE is MISSED by THE COST of it alone less that of nobody.", SentencesOfCosts::missed);
        Sentence.of("Terms", "TOGETHER: THE COST of two and that of nobody, less those of each alone.", SentencesOfCosts::together);
        Sentence.of("Terms", "SHARES: of 1 to 5 who have LEAVES (bits):", SentencesOfCosts::shareSizes);
        Sentence.of("Terms", "each one's part of THE COST of all of them less that of nobody, by all orders in which they may leave, on the mean.",
                SentencesOfCosts::shareOrders);
        Sentence.of("Terms", "ELECTED: of them who has most (of like ones the lowest).", SentencesOfCosts::elected);
        Sentence.of("Terms", "SPOILT by a PERSON: by how much ONE would be MISSED more, if that PERSON could do nothing (c 0) in those n DAYS,"
                + " whether the ONE is away or not; who spoils it most.", SentencesOfCosts::spoilt);
        Sentence.of("Terms", "WHEN TO LEAVE for m DAYS, from one of n DAYS on (0 to 30): by which first DAY (THE DAY and 0 to n - 1)", SentencesOfCosts::whenFirstDays);
        Sentence.of("Terms", "MISSED in n + m DAYS is most, its own LEAVE being that, and all others going on theirs;", SentencesOfCosts::whenAllDays);
        Sentence.of("Terms", "of like ones the earliest; it is MISSED by that less what it is if it stays.", SentencesOfCosts::whenLike);
        Sentence.of("Terms", "AGAINST another one: each leaves for one of 2 to 5 stretches of m DAYS, one behind the other from THE DAY on (all others go on theirs):",
                SentencesOfCosts::againstStretches);
        Sentence.of("Terms", "in all those DAYS each gains its SHARE of both less the other one's (all others away or not as they are):"
                + " twos of stretches at which neither gains more by another one alone: how many; the first.", SentencesOfCosts::againstByWords);
    }

    private static void due(String call, long got, long want) {
        Checks.due(call, got, want);
    }

    /**
     * a and b do 5 units each of the ten of CHORE 0, c one, if it stands in; on one DAY alone what is undone is missed,
     * each unit by as much as are undone: by 25 without a or b, by 100 without both.
     */
    static MissedTown onlyOn(int day) {
        MissedTown x = new MissedTown();
        x.person(0, 5);
        x.person(1, 5);
        x.person(2, 1);
        x.chore(0, 10);
        Checks.doers(x, "0:ab");
        Checks.law(x, "mu(d=" + day + ")");
        Checks.leaves(x, "a0-999,b0-999");
        return x;
    }

    /** Six who can do nothing, with a leave each on the first day, and one CHORE of a unit. */
    private static MissedTown six(String law) {
        MissedTown x = new MissedTown();
        for (int p = 0; p < 6; p++) {
            x.person(p, 0);
        }
        x.chore(0, 1);
        Checks.law(x, law);
        Checks.leaves(x, "a0-0,b0-0,c0-0,d0-0,e0-0,f0-0");
        return x;
    }

    private static void tried() {
        MissedTown x = PromisesTest.three("a1-3,c5-9");
        x.rain(5);
        Checks.law(x, "m1+i+5*r(1=1);nx+r(1=1)");
        int[] tried = new int[5];
        for (int what = 0; what < 5; what++) {
            tried[what] = x.tried(12, what);
            due("the same again", x.tried(12, what), tried[what]);
        }
        due("X stays", x.count(7), 1);
        due("missed as it comes", x.days(12), tried[0]);
        due("undone as it comes", x.choreIs(0, 1) + x.choreIs(1, 1) + x.choreIs(2, 1), tried[2]);
        // Draws 2 7 6 5 2 9 6 7 2 9 6 1: rainy by five tenths are the 1st, 5th, 9th and 12th day.
        due("rainy ones", tried[1], 4);
        for (String call : new String[] {"0", "1", "2", "3", "4", "10", "11", "12", "13", "30", "31", "32", "33"}) {
            Twins.onlyAsks("tried(60, " + call + ")", y -> y.tried(60, Integer.parseInt(call)));
        }
    }

    private static void cost() {
        MissedTown x = PromisesTest.three("a0-1,b1-2,c3-3,h0-9");
        int[] wants = {0, 8, 6, 13, 12, 20, 18, 25};
        for (int set = 0; set < 8; set++) {
            due("cost(" + set + ", 4)", x.cost(set, 4), wants[set]);
        }
        Checks.law(x, "n1+10*a(i=0);n0(1=1);c0(1=1);m1(1=1)");
        due("who is not in it stays, told or not", x.cost(0, 1), 1);
        due("who is in it goes", x.cost(1, 1), 11);
        Twins.onlyAsks("cost(0, 60)", y -> y.cost(0, 60));
        Twins.onlyAsks("cost(15, 60)", y -> y.cost(15, 60));
    }

    private static void missed() {
        MissedTown x = PromisesTest.three("a0-1,b1-2,c3-3");
        x.chore(3, 2);
        due("nobody", x.cost(0, 4), 32);
        due("a", x.missed(0, 4), 8);
        due("b", x.missed(1, 4), 6);
        due("c", x.missed(2, 4), 12);
        due("c, not before its leave", x.missed(2, 3), 0);
        Checks.law(x, "m1(a=0)");
        due("by less than nothing", x.missed(0, 1), -2);
        Twins.onlyAsks("missed(0, 60)", y -> y.missed(0, 60));
    }

    private static void together() {
        MissedTown x = PromisesTest.three("a0-0,b0-0,c0-0");
        int[][] wants = {{0, 1, 6 - 4 - 3}, {0, 2, 17 - 4 - 12}, {1, 2, 16 - 3 - 12}, {2, 1, 1}, {1, 0, -1}};
        for (int[] w : wants) {
            due("of " + w[0] + ", " + w[1], x.together(w[0], w[1], 1), w[2]);
        }
        x.chore(3, 2);
        due("with that of nobody", x.together(0, 2, 1), 1);
        Twins.onlyAsks("together(0, 1, 60)", y -> y.together(0, 1, 60));
    }

    private static void shareSizes() {
        MissedTown x = six("m60(a>0)");
        due("of none", x.share(0, 0, 1, 0), NO);
        due("of none, elected", x.share(0, 0, 1, 2), NO);
        for (int size = 1; size <= 5; size++) {
            due("of " + size, x.share((1 << size) - 1, 0, 1, 0), 60 / size);
            due("of the highest " + size, x.share(63 ^ (1 << 6 - size) - 1, 5, 1, 0), 60 / size);
            due("elected of " + size, x.share((1 << size) - 1, 0, 1, 2), 0);
        }
        due("of six", x.share(63, 0, 1, 0), NO);
        due("of six, elected", x.share(63, 0, 1, 2), NO);
        Twins.onlyAsks("share(7, 1, 60, 0)", y -> y.share(7, 1, 60, 0));
    }

    private static void shareOrders() {
        MissedTown x = PromisesTest.three("a0-0,b0-0,c0-0");
        x.chore(3, 2);
        // By the six orders a adds 4 4 3 3 5 3, b 2 2 3 4 2 4, c 13 13 13 12 12 12.
        int[] above = {11, 8, 38};
        int sum = 0;
        for (int p = 0; p < 3; p++) {
            due("above", x.share(7, p, 1, 0), above[p]);
            due("below", x.share(7, p, 1, 1), 3);
            sum += above[p];
        }
        due("all of them", x.cost(7, 1) - x.cost(0, 1), sum / 3);
        MissedTown five = six("m7(a=5)");
        for (int p = 0; p < 5; p++) {
            due("a fifth", five.share(31, p, 1, 0), 7);
            due("of all", five.share(31, p, 1, 1), 5);
        }
    }

    private static void elected() {
        MissedTown x = PromisesTest.three("a0-0,b0-0,c0-0");
        int[][] wants = {{1, 0}, {2, 1}, {4, 2}, {3, 0}, {5, 2}, {6, 2}, {7, 2}};
        for (int[] w : wants) {
            due("of " + w[0], x.share(w[0], 0, 1, 2), w[1]);
        }
        MissedTown like = six("m60(a>0)");
        due("of five like ones", like.share(62, 3, 1, 2), 1);
        due("of two like ones", like.share(48, 3, 1, 2), 4);
        Checks.law(like, "m60(a=0)");
        due("of like ones below 0", like.share(62, 3, 1, 2), 1);
    }

    private static void spoilt() {
        MissedTown x = PromisesTest.three("a0-0,b0-0,c0-0");
        int[][] wants = {{0, 1, -1}, {0, 2, 1}, {1, 0, -1}, {1, 2, 1}, {2, 0, 1}, {2, 1, 1}};
        for (int[] w : wants) {
            due(w[0] + " by " + w[1], x.spoilt(w[0], w[1], 1), w[2]);
        }
        due("in all those days", x.spoilt(0, 2, 60), 1);
        Checks.leaves(x, "a0-9");
        due("in ten days", x.spoilt(0, 2, 10), 10);
        // Who can do nothing is not away: c idle costs 5 units by 1, without a 8 by 11; else 0, without a 2 by 11.
        Checks.law(x, "m1+10*a(1=1)");
        due("c 0, but not away", x.spoilt(0, 2, 1), 88 - 5 - 22);
        Checks.law(x, "m1+i(1=1);c50(1=1)");
        due("c 0, whatever the law says", x.spoilt(0, 1, 1), 3);
        due("who spoils it most", x.spoilt(0, 10, 1), 1);
        Twins.onlyAsks("spoilt(0, 1, 60)", y -> y.spoilt(0, 1, 60));
        Twins.onlyAsks("spoilt(0, 10, 60)", y -> y.spoilt(0, 10, 60));
    }

    private static void whenFirstDays() {
        MissedTown x = SentencesOfDays.one(5, 5);
        int[][] wants = {{0, 0, 5}, {1, 1, 5}, {28, 28, 5}, {29, 29, 5}, {30, 0, 0}};
        for (int[] w : wants) {
            Checks.law(x, "m1(d=" + w[0] + ")");
            due("the day, if missed on " + w[0], x.when(0, 1, 30, 0), w[1]);
            due("how much", x.when(0, 1, 30, 1), w[2]);
        }
        Checks.law(x, "m1(d>0)");
        due("of one day", x.when(0, 1, 1, 0), 0);
        due("it is not missed on it", x.when(0, 1, 1, 1), 0);
        due("of two days", x.when(0, 1, 2, 0), 1);
        due("of no day", x.when(0, 1, 0, 0), NO);
        x.days(7);
        Checks.law(x, "m1(d=9)");
        due("from THE DAY on", x.when(0, 1, 3, 0), 9);
        due("not so far", x.when(0, 1, 2, 1), 0);
        Checks.law(x, "m1(d<7)");
        due("THE DAY", x.when(0, 1, 30, 0), 7);
    }

    private static void whenAllDays() {
        MissedTown x = SentencesOfDays.one(5, 5);
        Checks.law(x, "m1(d=48)");
        due("twenty days from 29 on", x.when(0, 20, 30, 0), 29);
        Checks.law(x, "m1(d=49)");
        due("not on day 49", x.when(0, 20, 30, 1), 0);
        Checks.law(x, "m1(d=49);k(1=1)");
        due("but what is left on it, less the five it does then", x.when(0, 20, 30, 1), 94);
        Checks.law(x, "m1(d=50);k(1=1)");
        due("of 50 days, not 51", x.when(0, 20, 30, 1), 0);
        MissedTown y = PromisesTest.three("a0-9,b5-5");
        due("its own leave being that", y.when(0, 1, 5, 1), 4);
        due("others going on theirs", y.when(1, 1, 1, 1), 2);
        due("one without a leave", y.when(2, 1, 1, 1), 13);
        due("its leave stays", y.personIs(0, 2), 9);
        Twins.onlyAsks("when(0, 20, 30, 0)", z -> z.when(0, 20, 30, 0));
        Twins.onlyAsks("when(3, 20, 30, 1)", z -> z.when(3, 20, 30, 1));
    }

    private static void whenLike() {
        MissedTown x = SentencesOfDays.one(5, 5);
        Checks.law(x, "m1(d=3|d=6)");
        due("the earliest", x.when(0, 1, 10, 0), 3);
        due("by that", x.when(0, 1, 10, 1), 5);
        due("two days, the earliest with day 3", x.when(0, 2, 10, 0), 2);
        due("four days, the first with both", x.when(0, 4, 10, 0), 3);
        due("by both", x.when(0, 4, 10, 1), 10);
        x.chore(1, 3);
        due("less what it is if it stays", x.when(0, 4, 10, 1), 10);
        Checks.law(x, "m1(a=0)");
        due("below 0, for all first days alike", x.when(0, 1, 10, 0), 0);
        due("missed by less than nothing", x.when(0, 1, 10, 1), -3);
    }

    private static void againstStretches() {
        MissedTown x = onlyOn(49);
        int[][] wants = {{0, 0}, {9, 0}, {10, 1}, {19, 1}, {20, 2}, {30, 3}, {40, 4}, {49, 4}};
        for (int[] w : wants) {
            Checks.law(x, "mu(d=" + w[0] + ")");
            due("twos, if missed on " + w[0], x.against(0, 1, 5, 10, 0), 1);
            due("stretch of p", x.against(0, 1, 5, 10, 1), w[1]);
            due("stretch of q", x.against(0, 1, 5, 10, 2), w[1]);
        }
        Checks.law(x, "mu(d=50)");
        due("all alike", x.against(0, 1, 5, 10, 0), 25);
        due("the first", x.against(0, 1, 5, 10, 1), 0);
        Checks.law(x, "mu(d=1)");
        due("two stretches of a day", x.against(0, 1, 2, 1, 1), 1);
        x.days(1);
        due("from THE DAY on", x.against(0, 1, 2, 1, 1), 0);
        due("one is best for each", x.against(0, 1, 2, 1, 0), 1);
    }

    /** The document's own words: each two of stretches by SHARES, as share tells them, nobody else having a leave. */
    private static void againstByWords() {
        String[] laws = {"m1+i(1=1)", "m1+i(d<3);m10(d=3);m1(1=1)", "mu(1=1)", "m1+d%3*i(1=1)", "m1(1=1);k(d%3=1)", "mu+5*a(1=1)"};
        for (String law : laws) {
            for (int stretches = 2; stretches <= 5; stretches++) {
                MissedTown x = PromisesTest.three("");
                Checks.law(x, law);
                x.days(1);
                int[] gains = gains(x, stretches, 2);
                x.home();
                int[] found = twos(gains, stretches);
                for (int what = 0; what < 3; what++) {
                    due(law + ", " + stretches + " stretches, what " + what, x.against(0, 1, stretches, 2, what), found[what]);
                }
            }
        }
        MissedTown x = onlyOn(0);
        Checks.law(x, "mu(1=1);n0(a>0&d=1)");
        Checks.leaves(x, "c1-1");
        due("others go on theirs", x.against(0, 1, 2, 1, 0), 1);
        due("so nobody leaves then", x.against(0, 1, 2, 1, 1), 0);
        Twins.onlyAsks("against(0, 1, 5, 10, 0)", y -> y.against(0, 1, 5, 10, 0));
    }

    /** Twice what a gains by each two of stretches. */
    private static int[] gains(MissedTown x, int stretches, int m) {
        int[] gains = new int[stretches * stretches];
        for (int k = 0; k < gains.length; k++) {
            int ofA = x.count(0) + k / stretches * m;
            int ofB = x.count(0) + k % stretches * m;
            Checks.leaves(x, "a" + ofA + "-" + (ofA + m - 1) + ",b" + ofB + "-" + (ofB + m - 1));
            int n = stretches * m;
            gains[k] = 2 * x.share(3, 0, n, 0) / x.share(3, 0, n, 1) - 2 * x.share(3, 1, n, 0) / x.share(3, 1, n, 1);
        }
        return gains;
    }

    /** How many twos there are at which neither gains more by another stretch, and the first of them. */
    private static int[] twos(int[] gains, int stretches) {
        int[] found = {0, -2, -2};
        for (int k = 0; k < gains.length; k++) {
            boolean rests = true;
            for (int other = 0; other < stretches; other++) {
                rests &= gains[other * stretches + k % stretches] <= gains[k];
                rests &= gains[k / stretches * stretches + other] >= gains[k];
            }
            if (rests && found[0]++ == 0) {
                found[1] = k / stretches;
                found[2] = k % stretches;
            }
        }
        return found;
    }

    private static void costOfToldOnes() {
        MissedTown x = PromisesTest.three("a0-0,b0-0,h0-0");
        due("nobody", x.cost(0, 1), 0);
        due("all three, c without a leave", x.cost(7, 1), 6);
        for (int bit = 3; bit < 32; bit++) {
            due("bit " + bit, x.cost(1 << bit, 1), -1);
            due("with others, bit " + bit, x.cost(1 << bit | 7, 1), -1);
        }
        for (int p = 3; p < 10; p++) {
            x.person(p, 1);
        }
        due("all ten", x.cost(1023, 1), 6);
        due("an eleventh", x.cost(1024, 1), -1);
        due("all bits", x.cost(-1, 1), -1);
    }

    /** What is missed on the first DAY or the sixtieth alone counts, what is missed on the sixty-first does not. */
    private static void sixtyDays() {
        for (int day : new int[] {0, 59, 60}) {
            MissedTown x = onlyOn(day);
            int counts = day < 60 ? 1 : 0;
            int n = Math.min(day + 1, 60);
            due("tried", x.tried(n, 0), 100 * counts);
            due("cost", x.cost(1, n), 25 * counts);
            due("missed", x.missed(0, n), 25 * counts);
            due("together", x.together(0, 1, n), 50 * counts);
            due("share", x.share(3, 0, n, 0), 50 * counts);
            due("spoilt", x.spoilt(0, 1, n), 50 * counts);
            due("who spoils it", x.spoilt(0, 10, n), counts == 1 ? 1 : -2);
            due("mayor", x.mayor(n, 10), 25 * counts);
            due("standIn", x.standIn(0, 2, 0, n), 9 * counts);
            due("hired", x.hired(1, 4, n, 10), 100 * counts);
            due("firstDoer", x.firstDoer(0, n, 0), counts == 1 ? 2 : -2);
            due("its MISSED", x.firstDoer(0, n, 1), 81 * counts);
            due("on day " + day + " of " + (n - 1), day < 2 ? 0 : x.cost(3, day < 60 ? 59 : 60), 0);
        }
    }

    private static void costRefused() {
        for (int n : new int[] {Integer.MIN_VALUE, -1, 0, 61, Integer.MAX_VALUE}) {
            Twins.refused("cost(1, " + n + ")", x -> x.cost(1, n), -1);
        }
        for (int set : new int[] {Integer.MIN_VALUE, -1, 16, 1024, 1 << 30}) {
            Twins.refused("cost(" + set + ", 1)", x -> x.cost(set, 1), -1);
        }
    }

    private static void missedRefused() {
        int[][] wrong = {{-1, 1}, {10, 1}, {3, 1}, {4, 1}, {7, 1}, {32, 1}, {0, 0}, {0, 61}, {0, -1}, {Integer.MIN_VALUE, Integer.MAX_VALUE}};
        for (int[] w : wrong) {
            Twins.refused("missed(" + w[0] + ", " + w[1] + ")", x -> x.missed(w[0], w[1]), NO);
        }
        Twins.refused("nobody has a leave", SentencesOfCosts::atHome, x -> x.missed(0, 1), NO);
    }

    /** The twins' town, nobody having a leave. */
    static MissedTown atHome() {
        MissedTown x = Twins.town();
        x.home();
        return x;
    }

    private static void togetherRefused() {
        int[][] wrong = {{0, 0, 1}, {-1, 0, 1}, {0, -1, 1}, {10, 0, 1}, {0, 10, 1}, {0, 3, 1}, {3, 0, 1}, {0, 4, 1}, {0, 7, 1}, {7, 0, 1}, {7, 7, 1}, {0, 1, 0},
            {0, 1, 61}, {0, 1, -1}};
        for (int[] w : wrong) {
            Twins.refused("together(" + w[0] + ", " + w[1] + ", " + w[2] + ")", x -> x.together(w[0], w[1], w[2]), NO);
        }
    }

    private static void shareAsFraction() {
        MissedTown x = six("m60(a=2)");
        // Only who comes second adds, and who comes third takes it off again: of two 30 each, of three nothing.
        due("of two, above", x.share(3, 0, 1, 0), 30);
        due("of two, below", x.share(3, 0, 1, 1), 1);
        due("of three, above", x.share(7, 0, 1, 0), 0);
        due("0 by 1", x.share(7, 0, 1, 1), 1);
        Checks.law(x, "m7(a=0)");
        int[][] wants = {{1, -7, 1}, {3, -7, 2}, {7, -7, 3}, {15, -7, 4}, {31, -7, 5}};
        for (int[] w : wants) {
            due("below 0", x.share(w[0], 0, 1, 0), w[1]);
            due("below the line never", x.share(w[0], 0, 1, 1), w[2]);
        }
        Checks.law(x, "m12(a=4)");
        due("12 by 4", x.share(15, 3, 1, 0), 3);
        due("by 1", x.share(15, 3, 1, 1), 1);
        Checks.law(x, "m10(a=4)");
        due("10 by 4", x.share(15, 3, 1, 0), 5);
        due("by 2", x.share(15, 3, 1, 1), 2);
        shareOfTheMost();
    }

    /** As much as can be missed in sixty days, of which each of five has a fifth. */
    private static void shareOfTheMost() {
        MissedTown x = six("n99(1=1);m99(a=5)");
        for (int i = 0; i < 12; i++) {
            x.chore(i, 20);
        }
        Checks.leaves(x, "a0-999,b0-999,c0-999,d0-999,e0-999");
        due("the most", x.cost(31, 60), 7056720);
        due("a fifth", x.share(31, 4, 60, 0), 1411344);
        due("by 1", x.share(31, 4, 60, 1), 1);
        Checks.law(x, "n99(1=1);m99(a=0)");
        due("a fifth less", x.share(31, 0, 60, 0), -1411344);
    }

    private static void shareElected() {
        for (int p : new int[] {Integer.MIN_VALUE, -1, 0, 1, 3, 9, 10, 32, Integer.MAX_VALUE}) {
            MissedTown x = PromisesTest.three("a0-0,b0-0,c0-0");
            due("p " + p, x.share(5, p, 1, 2), 2);
            due("p " + p + ", above", x.share(5, p, 1, 0), p == 0 ? 9 : NO);
        }
        due("two like ones", six("m2(a>0)").share(40, -1, 1, 2), 3);
    }

    private static void shareRefused() {
        int[][] wrong = {{0, 0, 1, 0}, {0, 0, 1, 2}, {8, 3, 1, 0}, {9, 0, 1, 2}, {128, 7, 1, 0}, {129, 0, 1, 2}, {1, 1, 1, 0}, {1, 1, 1, 1}, {3, 2, 1, 0}, {3, -1, 1, 1},
            {3, 10, 1, 0}, {3, 32, 1, 0}, {1, 0, 0, 0}, {1, 0, 61, 0}, {1, 0, 0, 2}, {1, 0, 61, 2}, {1, 0, 1, -1}, {1, 0, 1, 3}, {1024, 10, 1, 0}, {1025, 0, 1, 0},
            {-1, 0, 1, 2}, {Integer.MIN_VALUE, 31, 1, 0}};
        for (int[] w : wrong) {
            Twins.refused("share(" + w[0] + ", " + w[1] + ", " + w[2] + ", " + w[3] + ")", x -> x.share(w[0], w[1], w[2], w[3]), NO);
        }
    }

    private static void spoiltMost() {
        MissedTown x = PromisesTest.three("a0-0,b0-0,c0-0");
        due("a by c", x.spoilt(0, 10, 1), 2);
        due("c by a and b alike: the lowest", x.spoilt(2, 10, 1), 0);
        Checks.doers(x, "0:a;1:b;2:c");
        due("nobody, all being 0", x.spoilt(0, 10, 1), -2);
        due("0", x.spoilt(0, 1, 1), 0);
        Checks.doers(x, "0:ab;1:b;2:c");
        due("below 0", x.spoilt(0, 1, 1), 3 - 5);
        due("nobody, b being below 0", x.spoilt(0, 10, 1), -2);
        x.person(3, 1);
        Checks.doers(x, "0:ad");
        due("d, one unit by 1", x.spoilt(0, 3, 1), 1);
        due("d", x.spoilt(0, 10, 1), 3);
        nobodyByItself();
    }

    private static void nobodyByItself() {
        MissedTown x = SentencesOfDays.one(3, 4);
        x.person(1, 0);
        Checks.leaves(x, "a0-0");
        Checks.law(x, "m5(u=1)");
        due("missed by less than nothing", x.missed(0, 1), -5);
        due("itself is not asked", x.spoilt(0, 10, 1), -2);
    }

    private static void spoiltRefused() {
        int[][] wrong = {{0, 0, 1}, {-1, 0, 1}, {0, -1, 1}, {10, 0, 1}, {10, 10, 1}, {0, 11, 1}, {0, 4, 1}, {0, 7, 1}, {3, 0, 1}, {3, 10, 1}, {7, 0, 1}, {7, 10, 1},
            {0, 1, 0}, {0, 1, 61}, {0, 10, 0}, {0, 10, 61}, {0, 32, 1}, {0, 42, 1}};
        for (int[] w : wrong) {
            Twins.refused("spoilt(" + w[0] + ", " + w[1] + ", " + w[2] + ")", x -> x.spoilt(w[0], w[1], w[2]), NO);
        }
        Twins.onlyAsks("q without a leave", x -> x.spoilt(0, 3, 1));
    }

    private static void whenBounds() {
        MissedTown x = PromisesTest.three("b0-999");
        int[][] wants = {{1, 1, 3}, {20, 1, 60}, {1, 30, 3}, {20, 30, 60}};
        for (int[] w : wants) {
            due("without a leave", x.when(0, w[0], w[1], 1), w[2]);
        }
        due("with a leave", x.when(1, 20, 30, 1), 60);
        Checks.law(x, "m1(d=29)");
        due("the last first day", x.when(0, 1, 30, 0), 29);
        x.days(60);
        due("behind THE DAY", x.when(1, 1, 1, 0), 60);
    }

    private static void whenRefused() {
        int[][] wrong = {{-1, 1, 1, 0}, {10, 1, 1, 0}, {4, 1, 1, 0}, {7, 1, 1, 0}, {0, 0, 1, 0}, {0, 21, 1, 0}, {0, -1, 1, 0}, {0, 1, 0, 0}, {0, 1, 31, 0}, {0, 1, -1, 0},
            {0, 1, 1, -1}, {0, 1, 1, 2}, {0, Integer.MAX_VALUE, 1, 0}, {0, 1, Integer.MAX_VALUE, 1}};
        for (int[] w : wrong) {
            Twins.refused("when(" + w[0] + ", " + w[1] + ", " + w[2] + ", " + w[3] + ")", x -> x.when(w[0], w[1], w[2], w[3]), NO);
        }
    }

    private static void againstBounds() {
        MissedTown x = onlyOn(0);
        for (int stretches = 2; stretches <= 5; stretches++) {
            for (int m = 1; m <= 10; m++) {
                Checks.law(x, "mu(d=" + (stretches * m - 1) + ")");
                due("the last day of all", x.against(0, 1, stretches, m, 1), stretches - 1);
                due("of q", x.against(1, 0, stretches, m, 2), stretches - 1);
            }
        }
        Checks.law(x, "mu(1=1)");
        for (String leaves : new String[] {"a0-999,b0-999", "a1-1", "b1-1", "a0-0,b1-1"}) {
            Checks.leaves(x, leaves);
            due("leaves of both aside", x.against(0, 1, 2, 1, 0), 4);
            due("leaves of both aside, the other way round", x.against(1, 0, 2, 1, 0), 4);
        }
        Checks.leaves(x, "a0-999,b0-999");
        due("without a leave", x.against(0, 2, 2, 1, 0), 4);
        due("nobody has one", x.home() == 2 ? x.against(0, 2, 2, 1, 0) : 0, 4);
        // With b away on day 1 a alone would leave ten units there, not five; c does nothing anyway.
        Checks.leaves(x, "b1-1");
        due("others as they are", x.against(0, 2, 2, 1, 0), 2);
        due("a on day 1", x.against(0, 2, 2, 1, 1), 1);
        due("c on either", x.against(0, 2, 2, 1, 2), 0);
    }

    private static void againstAlwaysSome() {
        String[] laws = {"m1(1=1)", "mu(d=1)", "m1(a=0)", "m9(a=1);m5(a=2)", "m5(a=1&d=0);m9(a=2&d=1);m1(a=1)", "k(d=2);mu*d(1=1)", "n0(a=1);m3(1=1)"};
        for (String law : laws) {
            MissedTown x = onlyOn(0);
            Checks.law(x, law);
            for (int stretches = 2; stretches <= 5; stretches++) {
                int many = x.against(0, 1, stretches, 1, 0);
                Checks.due(law + ": some", many >= 1 && many <= stretches * stretches, true);
                int ofP = x.against(0, 1, stretches, 1, 1);
                int ofQ = x.against(0, 1, stretches, 1, 2);
                Checks.due(law + ": the first", ofP >= 0 && ofP < stretches && ofQ >= 0 && ofQ < stretches, true);
            }
        }
        MissedTown empty = new MissedTown();
        empty.person(0, 1);
        empty.person(9, 1);
        due("nothing to do", empty.against(9, 0, 3, 10, 0), 9);
    }

    private static void againstRefused() {
        int[][] wrong = {{0, 0, 2, 1, 0}, {-1, 0, 2, 1, 0}, {0, -1, 2, 1, 0}, {10, 0, 2, 1, 0}, {0, 10, 2, 1, 0}, {0, 4, 2, 1, 0}, {4, 0, 2, 1, 0}, {0, 7, 2, 1, 0},
            {0, 1, 1, 1, 0}, {0, 1, 6, 1, 0}, {0, 1, 0, 1, 0}, {0, 1, -1, 1, 0}, {0, 1, 2, 0, 0}, {0, 1, 2, 11, 0}, {0, 1, 2, -1, 0}, {0, 1, 2, 1, -1}, {0, 1, 2, 1, 3}};
        for (int[] w : wrong) {
            Twins.refused("against(" + w[0] + ", " + w[1] + ", " + w[2] + ", " + w[3] + ", " + w[4] + ")",
                    x -> x.against(w[0], w[1], w[2], w[3], w[4]), NO);
        }
    }
}
