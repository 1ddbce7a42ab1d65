/** The sentences on who it was and who matters: the Terms' third part, and promises 21 to 29. */
final class SentencesOfTown {
    private static final int NO = -1000000000;

    private SentencesOfTown() {
    }

    static void all() {
        terms();
        Sentence.of("Promise 21", "WHAT STOPPED by the first n bytes of the tape (units of CHORES 0 to n - 1; n 1 to 12; empty then; of CHORES that are not told 0):",
                SentencesOfTown::stoppedBytes);
        Sentence.of("Promise 21", "PEOPLE that fit (bits; bit 10: nobody away);", SentencesOfTown::stoppedBits);
        Sentence.of("Promise 21", "NONE: no such n, it has not so many (the tape stays).", SentencesOfTown::stoppedRefused);
        Sentence.of("Promise 22", "HOLDS TOGETHER for n DAYS (1 to 20) by so much (0 to 999999), what 0 how many, 1 who (bits);", SentencesOfTown::holdsBounds);
        Sentence.of("Promise 22", "-2: not by all;", SentencesOfTown::notByAll);
        Sentence.of("Promise 22", "NONE: no such ones.", SentencesOfTown::holdsRefused);
        Sentence.of("Promise 23", "THE MAYOR for n DAYS, what 0 who, 1 how much; -2: nobody is told; 10 + p how much told PERSON p would be MISSED so;",
                SentencesOfTown::mayorOfNobody);
        Sentence.of("Promise 23", "-1000000000: no such ones.", SentencesOfTown::mayorRefused);
        Sentence.of("Promise 24", "A STAND-IN told PERSON q for CHORE i (told) in n DAYS: by how much ONE (p) is MISSED less (may be below 0);"
                + " the CHORE for which that is most (i 12);", SentencesOfTown::standInMost);
        Sentence.of("Promise 24", "-1000000000: no such ones, one twice, p has no LEAVE, no CHORE is told.", SentencesOfTown::standInRefused);
        Sentence.of("Promise 25", "HIRED units (1 to 9) to PEOPLE (bits, 1 to 3 told ones) for n DAYS, what 10 MISSED then, else units of PERSON what of them;",
                SentencesOfTown::hiredBounds);
        Sentence.of("Promise 25", "NONE: no such ones.", SentencesOfTown::hiredRefused);
        Sentence.of("Promise 26", "MUST STAY for n DAYS (1 to 20), what 0 how many, 1 who (bits);", SentencesOfTown::mustStayBounds);
        Sentence.of("Promise 26", "-2: something is UNDONE even if all stay;", SentencesOfTown::evenIfAllStay);
        Sentence.of("Promise 26", "NONE: no such ones.", SentencesOfTown::mustStayRefused);
        Sentence.of("Promise 27", "HALF DONE on so many DAYS (1 to 20);", SentencesOfTown::halfDoneBounds);
        Sentence.of("Promise 27", "-2: its LEAVE begins within so many DAYS from THE DAY on, or ahead of it;", SentencesOfTown::halfDoneTooSoon);
        Sentence.of("Promise 27", "-3: its last DAY is 60 or more behind THE DAY;", SentencesOfTown::halfDoneTooFar);
        Sentence.of("Promise 27", "-1000000000: no such ones, it has no LEAVE.", SentencesOfTown::halfDoneRefused);
        Sentence.of("Promise 28", "BY TURNS for PEOPLE (bits, 2 to 4 told ones) of m DAYS (1 to 10) each, what 10 how much is MISSED, else who leaves at place what;",
                SentencesOfTown::byTurnsBounds);
        Sentence.of("Promise 28", "NONE: no such ones.", SentencesOfTown::byTurnsRefused);
        Sentence.of("Promise 29", "THE FIRST DOER of a told CHORE in n DAYS, what 0 who (-2: nobody), 1 how much is MISSED then;", SentencesOfTown::firstDoerNobody);
        Sentence.of("Promise 29", "NONE: no such ones.", SentencesOfTown::firstDoerRefused);
    }

    private static void terms() {
        Sentence.of("Terms", "WHAT STOPPED: told are units that are UNDONE of CHORES 0 on at the end of THE DAY, if one that is not known is away on it alone"
                + " (no LEAVE looked at): PEOPLE that fit (bits); nobody away fits, too: 10.", SentencesOfTown::stopped);
        Sentence.of("Terms", "HOLDS TOGETHER: the fewest PEOPLE who, away together for n DAYS (LEAVES aside), are MISSED so much or more;", SentencesOfTown::holds);
        Sentence.of("Terms", "are MISSED so much or more; of like ones the least bits.", SentencesOfTown::holdsLike);
        Sentence.of("Terms", "THE MAYOR: who, away for n DAYS alone (LEAVES aside), is MISSED least; of like ones the lowest; how much; what each is MISSED so.",
                SentencesOfTown::mayor);
        Sentence.of("Terms", "A STAND-IN: a PERSON is the first of the DOERS of a CHORE in those n DAYS, ahead of all of them, whether ONE is away or not:"
                + " by how much ONE is MISSED less then; for which CHORE that is most (the lowest).", SentencesOfTown::standIn);
        Sentence.of("Terms", "HIRED: so many units more of CAP a DAY (1 to 9 in all, just so many) for 1 to 3 told PEOPLE, so that MISSED in n DAYS is least,"
                + " all going on their LEAVES;", SentencesOfTown::hired);
        Sentence.of("Terms", "all going on their LEAVES; of like ones the least row (by PEOPLE).", SentencesOfTown::hiredLike);
        Sentence.of("Terms", "MUST STAY: the fewest of those who have a LEAVE that must stay, all others of them going, so that nothing is UNDONE in n DAYS;",
                SentencesOfTown::mustStay);
        Sentence.of("Terms", "so that nothing is UNDONE in n DAYS; of like ones the least bits.", SentencesOfTown::mustStayLike);
        Sentence.of("Terms", "HALF DONE: a PERSON with a LEAVE does nothing (c 0) on so many DAYS just ahead of it:"
                + " by how much more is MISSED on the DAYS of its LEAVE (it alone going).", SentencesOfTown::halfDone);
        Sentence.of("Terms", "BY TURNS: 2 to 4 PEOPLE leave for m DAYS each, one behind the other from THE DAY on, nobody else being away:"
                + " the order by which least is MISSED in those DAYS;", SentencesOfTown::byTurns);
        Sentence.of("Terms", "in those DAYS; of like ones the least row.", SentencesOfTown::byTurnsLike);
        Sentence.of("Terms", "THE FIRST DOER of a CHORE: the PERSON who, being the first of its DOERS ahead of all, makes least MISSED in n DAYS,"
                + " all going on their LEAVES; of like ones the lowest; nobody, if none makes it less.", SentencesOfTown::firstDoer);
    }

    private static void due(String call, long got, long want) {
        Checks.due(call, got, want);
    }

    /** Ten people who can do nothing, and one CHORE of a unit. */
    private static MissedTown ten(String law) {
        MissedTown x = new MissedTown();
        for (int p = 0; p < 10; p++) {
            x.person(p, 0);
        }
        x.chore(0, 1);
        Checks.law(x, law);
        return x;
    }

    private static void stopped() {
        MissedTown x = PromisesTest.three("a0-9,b0-9,c0-9,h0-9");
        due("a", Checks.stopped(x, 1, 0, 1), 1);
        due("b", Checks.stopped(x, 0, 0, 1), 2);
        due("c", Checks.stopped(x, 0, 3, 2), 4);
        due("nobody", Checks.stopped(x, 0, 0, 0), 1024);
        due("none", Checks.stopped(x, 9, 9, 9), 0);
        due("two at once don't", Checks.stopped(x, 3, 0, 1), 0);
        x.days(1);
        Checks.law(x, "n5*a(i=0);n0(1=1);c0(1=1);k(1=1)");
        // All were away: 3 + 5 + 2 units are undone, and are carried; one who is away alone adds five to CHORE 0.
        due("a is 1 with one away", Checks.stopped(x, 8, 5, 2), 7);
        due("and 0 with nobody", Checks.stopped(x, 3, 5, 2), 1024);
        due("THE DAY alone", x.count(0), 1);
        due("leaves stay", x.count(9), 135);
    }

    private static void stoppedBytes() {
        MissedTown x = new MissedTown();
        x.chore(0, 1);
        x.chore(11, 20);
        due("of chore 0 alone", Checks.stopped(x, 1), 1024);
        for (int n = 1; n <= 12; n++) {
            int[] units = new int[n];
            units[0] = 1;
            units[n - 1] = n == 1 ? 1 : n == 12 ? 20 : 0;
            due("right, of " + n, Checks.stopped(x, units), 1024);
            due("the tape is empty", x.count(6), 0);
            units[n - 1]++;
            due("wrong at the last of " + n, Checks.stopped(x, units), 0);
        }
        x.feed(0x01000000, 0, 0x00000014, 0x07070707, -1);
        due("what is behind does not matter", x.stopped(12), 1024);
        due("but goes", x.count(6), 0);
        MissedTown y = new MissedTown();
        y.chore(0, 0);
        Checks.law(y, "n99(1=1)");
        due("99 units", Checks.stopped(y, 99), 1024);
        due("byte 255", Checks.stopped(y, 255), 0);
        due("byte 128 + 99", Checks.stopped(y, 227), 0);
    }

    private static void stoppedBits() {
        MissedTown x = ten("m1(1=1)");
        due("all ten and nobody", Checks.stopped(x, 1), 2047);
        due("none", Checks.stopped(x, 0), 0);
        Checks.law(x, "n2(a=1);n1(1=1)");
        due("all ten", Checks.stopped(x, 2), 1023);
        due("nobody", Checks.stopped(x, 1), 1024);
        MissedTown two = new MissedTown();
        two.person(9, 1);
        two.person(0, 0);
        two.chore(0, 1);
        Checks.doers(two, "0:j");
        due("9 alone of two told ones", Checks.stopped(two, 1), 512);
        due("0 and nobody", Checks.stopped(two, 0), 1025);
        due("nobody is told", Checks.stopped(new MissedTown(), 0), 1024);
    }

    private static void stoppedRefused() {
        for (int n : new int[] {Integer.MIN_VALUE, -1, 0, 13, 40, 41, Integer.MAX_VALUE}) {
            Twins.refused("stopped(" + n + ")", x -> x.stopped(n), -1);
        }
        Twins.refused("of an empty tape", SentencesOfTown::emptyTape, x -> x.stopped(1), -1);
    }

    static MissedTown emptyTape() {
        MissedTown x = Twins.town();
        x.check(0);
        return x;
    }

    private static void holds() {
        MissedTown x = PromisesTest.three("a0-9,b5-9");
        x.chore(3, 2);
        int[][] wants = {{0, 0, 0}, {1, 1, 1}, {4, 1, 1}, {5, 1, 4}, {12, 1, 4}, {13, 2, 5}, {17, 2, 5}, {18, 3, 7}, {19, 3, 7}, {20, -2, -2}};
        for (int[] w : wants) {
            due("by " + w[0] + ", how many", x.holds(1, w[0], 0), w[1]);
            due("by " + w[0] + ", who", x.holds(1, w[0], 1), w[2]);
        }
        due("for ten days", x.holds(10, 120, 1), 4);
        due("by one more", x.holds(10, 121, 1), 5);
        Twins.onlyAsks("holds(20, 1, 0)", y -> y.holds(20, 1, 0));
        Twins.onlyAsks("holds(20, 999999, 1)", y -> y.holds(20, 999999, 1));
    }

    private static void holdsLike() {
        MissedTown x = ten("m1(a=2);m2(a=4)");
        due("of forty-five like twos", x.holds(1, 1, 1), 3);
        due("of fours", x.holds(1, 2, 1), 15);
        x = SentencesOfCosts.onlyOn(0);
        due("of two like ones", x.holds(1, 25, 1), 1);
        Checks.doers(x, "0:b");
        due("the second alone", x.holds(1, 75, 1), 2);
        Checks.law(x, "m1(p=0)");
        due("fewer go ahead of less bits", x.holds(1, 5, 1), 2);
    }

    private static void holdsBounds() {
        MissedTown x = SentencesOfCosts.onlyOn(0);
        due("one day", x.holds(1, 25, 1), 1);
        Checks.law(x, "mu(d=19)");
        due("twenty days", x.holds(20, 25, 1), 1);
        due("not of nineteen", x.holds(19, 1, 0), -2);
        Checks.law(x, "mu(d=20)");
        due("not the twenty-first", x.holds(20, 1, 0), -2);
        due("by 0", x.holds(20, 0, 0), 0);
        due("nobody", x.holds(20, 0, 1), 0);
        MissedTown all = ten("n99(1=1);m99(a=10)");
        for (int i = 0; i < 12; i++) {
            all.chore(i, 20);
        }
        due("by 999999, all ten", all.holds(20, 999999, 0), 10);
        due("who", all.holds(20, 999999, 1), 1023);
        due("of ten days", all.holds(8, 940896, 0), 10);
        due("and no more", all.holds(8, 940897, 0), -2);
    }

    private static void notByAll() {
        MissedTown x = PromisesTest.three("");
        due("by all", x.holds(1, 19, 0), 3);
        due("not by all", x.holds(1, 20, 0), -2);
        due("not by all, who", x.holds(1, 20, 1), -2);
        due("nobody is told", new MissedTown().holds(1, 1, 0), -2);
        due("but by nothing", new MissedTown().holds(1, 0, 0), 0);
        MissedTown untold = new MissedTown();
        untold.chore(0, 1);
        Checks.law(untold, "m1(a=1)");
        due("nor by one who is not told", untold.holds(1, 1, 0), -2);
        due("but by the one who is", untold.person(4, 0) ? untold.holds(1, 1, 1) : 0, 16);
    }

    private static void holdsRefused() {
        int[][] wrong = {{0, 1, 0}, {21, 1, 0}, {-1, 1, 0}, {1, -1, 0}, {1, 1000000, 0}, {1, 1, -1}, {1, 1, 2}, {Integer.MAX_VALUE, 1, 0}, {1, Integer.MIN_VALUE, 1}};
        for (int[] w : wrong) {
            Twins.refused("holds(" + w[0] + ", " + w[1] + ", " + w[2] + ")", x -> x.holds(w[0], w[1], w[2]), -1);
        }
    }

    private static void mayor() {
        MissedTown x = PromisesTest.three("a0-9,b5-9");
        x.chore(3, 2);
        due("who", x.mayor(1, 0), 1);
        due("how much", x.mayor(1, 1), 3);
        int[] each = {4, 3, 12};
        for (int p = 0; p < 3; p++) {
            due("what " + p + " is missed", x.mayor(1, 10 + p), each[p]);
            due("in sixty days", x.mayor(60, 10 + p), 60 * each[p]);
        }
        MissedTown like = ten("m3(a=1)");
        due("of ten like ones", like.mayor(1, 0), 0);
        due("by 3", like.mayor(1, 1), 3);
        Checks.law(like, "m5(a=0)");
        due("below 0", like.mayor(1, 1), -5);
        MissedTown two = SentencesOfCosts.onlyOn(0);
        due("c does nothing", two.mayor(1, 0), 2);
        due("by nothing", two.mayor(1, 1), 0);
        Twins.onlyAsks("mayor(60, 0)", y -> y.mayor(60, 0));
        Twins.onlyAsks("mayor(60, 13)", y -> y.mayor(60, 13));
    }

    private static void mayorOfNobody() {
        MissedTown x = new MissedTown();
        due("who", x.mayor(1, 0), -2);
        due("how much", x.mayor(60, 1), -2);
        due("no such person", x.mayor(1, 10), NO);
        x.person(9, 0);
        due("the only one", x.mayor(1, 0), 9);
        due("by nothing", x.mayor(1, 1), 0);
        due("it", x.mayor(1, 19), 0);
    }

    private static void mayorRefused() {
        int[][] wrong = {{0, 0}, {61, 0}, {-1, 0}, {1, -1}, {1, 2}, {1, 9}, {1, 14}, {1, 17}, {1, 19}, {1, 20}, {0, 10}, {61, 10}, {1, Integer.MIN_VALUE}, {1, 42}};
        for (int[] w : wrong) {
            Twins.refused("mayor(" + w[0] + ", " + w[1] + ")", x -> x.mayor(w[0], w[1]), NO);
        }
    }

    private static void standIn() {
        MissedTown x = PromisesTest.three("a0-0,b0-0,c0-0");
        int[][] wants = {{0, 2, 0, 4}, {0, 2, 1, 3}, {0, 2, 2, 0}, {0, 1, 0, 3}, {2, 0, 1, 2}, {2, 0, 2, 3}, {2, 1, 0, -1}, {1, 0, 1, 3}, {1, 0, 2, 3}};
        for (int amount = 0; amount <= 2; amount++) {
            // What is missed anyway, of a CHORE that nobody does, falls out.
            x.chore(3, amount);
            for (int[] w : wants) {
                due(w[1] + " for " + w[0] + " at " + w[2], x.standIn(w[0], w[1], w[2], 1), w[3]);
            }
            due("of two alike the lowest", x.standIn(1, 0, 12, 1), 1);
        }
        due("the doers stay", x.choreIs(0, 10) * 10 + x.choreIs(0, 11), 1);
        Twins.onlyAsks("standIn(0, 1, 0, 60)", y -> y.standIn(0, 1, 0, 60));
        Twins.onlyAsks("standIn(0, 1, 12, 60)", y -> y.standIn(0, 1, 12, 60));
        MissedTown y = SentencesOfCosts.onlyOn(0);
        y.person(3, 20);
        due("ahead of all, whether away or not", y.standIn(0, 3, 0, 1), 25);
    }

    private static void standInMost() {
        MissedTown x = PromisesTest.three("a0-0,b0-0,c0-0");
        due("a for c: not chore 0, nor 1", x.standIn(2, 0, 12, 1), 2);
        due("c for a: chore 0", x.standIn(0, 2, 12, 1), 0);
        MissedTown y = new MissedTown();
        y.person(0, 1);
        y.person(1, 1);
        y.chore(11, 1);
        Checks.doers(y, "11:a");
        Checks.law(y, "m1(1=1)");
        Checks.leaves(y, "a0-0");
        due("the only one that is told", y.standIn(0, 1, 12, 1), 11);
        due("by 1", y.standIn(0, 1, 11, 1), 1);
        y.chore(3, 0);
        due("still the most", y.standIn(0, 1, 12, 1), 11);
        Checks.leaves(y, "a5-5");
        due("all alike: the lowest", y.standIn(0, 1, 12, 1), 3);
        due("q without a leave, p with one", y.standIn(0, 1, 3, 60), 0);
        MissedTown below = PromisesTest.three("c0-0");
        due("below 0", below.standIn(2, 1, 0, 1), -1);
    }

    private static void standInRefused() {
        int[][] wrong = {{0, 0, 0, 1}, {-1, 0, 0, 1}, {0, -1, 0, 1}, {10, 0, 0, 1}, {0, 10, 0, 1}, {3, 0, 0, 1}, {7, 0, 0, 1}, {0, 4, 0, 1}, {0, 7, 0, 1}, {0, 1, 4, 1},
            {0, 1, -1, 1}, {0, 1, 11, 1}, {0, 1, 13, 1}, {0, 1, 0, 0}, {0, 1, 0, 61}, {0, 1, 12, 0}, {0, 1, 12, 61}, {0, 0, 12, 1}, {3, 0, 12, 1}, {0, 1, 32, 1}};
        for (int[] w : wrong) {
            Twins.refused("standIn(" + w[0] + ", " + w[1] + ", " + w[2] + ", " + w[3] + ")", x -> x.standIn(w[0], w[1], w[2], w[3]), NO);
        }
        MissedTown x = new MissedTown();
        x.person(0, 1);
        x.person(1, 1);
        Checks.leaves(x, "a0-0");
        due("no CHORE is told", x.standIn(0, 1, 12, 1), NO);
        due("nor that", x.standIn(0, 1, 0, 1), NO);
        x.chore(0, 1);
        due("now one is", x.standIn(0, 1, 12, 1), 0);
    }

    private static void hired() {
        MissedTown x = PromisesTest.three("a0-0");
        int[][] wants = {{1, 1, 0, 1}, {2, 0, 1, 1}, {3, 0, 1, 2}, {9, 0, 1, 8}};
        for (int[] w : wants) {
            due(w[0] + " units, missed", x.hired(w[0], 6, 1, 10), w[1]);
            due("of b", x.hired(w[0], 6, 1, 1), w[2]);
            due("of c", x.hired(w[0], 6, 1, 2), w[3]);
        }
        due("a is away", x.hired(9, 1, 1, 10), 4);
        due("just so many", x.hired(9, 1, 1, 0), 9);
        justSoMany();
        Checks.law(x, "m1+i(1=1);c0(x=7)");
        due("by the law: c with 7 does nothing", x.hired(1, 6, 1, 1), 1);
        due("the cap stays", x.personIs(1, 0), 2);
        Twins.onlyAsks("hired(9, 7, 60, 10)", y -> y.hired(9, 7, 60, 10));
    }

    /** Who has more than five units does nothing, but all units have to be given. */
    private static void justSoMany() {
        MissedTown x = SentencesOfCosts.onlyOn(0);
        x.home();
        Checks.law(x, "c0(x>5);mu(1=1)");
        for (int units = 1; units <= 9; units++) {
            due("to a", x.hired(units, 1, 1, 10), 25);
            due("all of them", x.hired(units, 1, 1, 0), units);
            due("to a and b", x.hired(units, 3, 1, 10), 25);
            due("none to a", x.hired(units, 3, 1, 0), 0);
            due("all to b", x.hired(units, 3, 1, 1), units);
            due("to all three", x.hired(units, 7, 1, 10), 0);
            due("all to c, who has nothing to do", x.hired(units, 7, 1, 2), units);
        }
        Checks.doers(x, "0:a");
        Checks.law(x, "mu(1=1)");
        int[] row = {5, 0, 0};
        for (int p = 0; p < 3; p++) {
            due("a alone can use them", x.hired(5, 7, 1, p), row[p]);
        }
    }

    private static void hiredLike() {
        MissedTown x = ten("c0(1=1);m1(1=1)");
        int[][] wants = {{0, 0}, {4, 0}, {9, 7}};
        for (int[] w : wants) {
            due("all in vain", x.hired(7, 1 | 1 << 4 | 1 << 9, 1, w[0]), w[1]);
        }
        due("of two", x.hired(7, 3, 1, 0) * 10 + x.hired(7, 3, 1, 1), 7);
        MissedTown y = SentencesOfCosts.onlyOn(0);
        y.home();
        y.chore(0, 13);
        // Three units are missing: any row by which the first two have three in all is as good.
        due("a gets none", y.hired(5, 7, 1, 0), 0);
        due("b the three", y.hired(5, 7, 1, 1), 3);
        due("c the rest", y.hired(5, 7, 1, 2), 2);
    }

    private static void hiredBounds() {
        MissedTown x = SentencesOfDays.one(0, 20);
        x.person(3, 0);
        x.person(9, 0);
        Checks.doers(x, "0:adj");
        for (int units = 1; units <= 9; units++) {
            due("one of them", x.hired(units, 1, 1, 10), 20 - units);
            due("his", x.hired(units, 1, 1, 0), units);
            due("two of them", x.hired(units, 9, 1, 10), 20 - units);
            due("theirs", x.hired(units, 9, 1, 0) * 10 + x.hired(units, 9, 1, 3), units);
            due("three of them", x.hired(units, 521, 1, 10), 20 - units);
            due("the last one's", x.hired(units, 521, 1, 9), units);
            due("each day", x.hired(units, 521, 60, 10), 60 * (20 - units));
        }
        x.person(0, 20);
        Checks.law(x, "n99(1=1);m1(1=1)");
        due("more than a cap may be", x.hired(9, 1, 1, 10), 99 - 29);
    }

    private static void hiredRefused() {
        int[][] wrong = {{0, 1, 1, 10}, {10, 1, 1, 10}, {-1, 1, 1, 10}, {1, 0, 1, 10}, {1, 15, 1, 10}, {1, 16, 1, 10}, {1, 17, 1, 10}, {1, 128, 1, 10}, {1, 1, 0, 10},
            {1, 1, 61, 10}, {1, 1, 1, 1}, {1, 1, 1, -1}, {1, 1, 1, 9}, {1, 1, 1, 11}, {1, 1024, 1, 10}, {1, 1025, 1, 10}, {1, -1, 1, 10}, {1, Integer.MIN_VALUE, 1, 10},
            {1, 1, 1, 32}};
        for (int[] w : wrong) {
            Twins.refused("hired(" + w[0] + ", " + w[1] + ", " + w[2] + ", " + w[3] + ")", x -> x.hired(w[0], w[1], w[2], w[3]), -1);
        }
    }

    private static void mustStay() {
        MissedTown x = PromisesTest.three("a0-0,b0-0,c0-0");
        due("all three", x.mustStay(1, 1), 7);
        x.chore(0, 2);
        x.chore(2, 1);
        due("two of them", x.mustStay(1, 0), 2);
        due("a and c", x.mustStay(1, 1), 5);
        Checks.leaves(x, "a1-1,b1-1,c9-9");
        int[][] wants = {{1, 0}, {2, 1}, {9, 1}, {10, 5}, {20, 5}};
        for (int[] w : wants) {
            due("in " + w[0] + " days", x.mustStay(w[0], 1), w[1]);
        }
        Checks.leaves(x, "b0-0");
        due("who has no leave is not asked", x.mustStay(1, 1), 0);
        Checks.law(x, "nx+a(i=2);c6(p=2)");
        Checks.leaves(x, "h0-0");
        due("who has a leave is, told or not", x.mustStay(1, 1), 0);
        Checks.law(x, "nx+20*a(i=2);c6(p=2)");
        due("if it has to stay", x.mustStay(1, 1), 128);
        Twins.onlyAsks("mustStay(1, 0)", y -> y.mustStay(1, 0));
        Twins.onlyAsks("mustStay(20, 1)", y -> y.mustStay(20, 1));
    }

    private static void mustStayLike() {
        MissedTown x = SentencesOfDays.one(0, 5);
        x.person(1, 5);
        x.person(2, 5);
        x.person(3, 5);
        Checks.doers(x, "0:abcd");
        Checks.leaves(x, "a0-0,b0-0,c0-0,d0-0");
        due("of b, c and d", x.mustStay(1, 1), 2);
        x.chore(0, 10);
        due("of their twos", x.mustStay(1, 1), 6);
        x.person(3, 10);
        due("one, though two have less bits", x.mustStay(1, 1), 8);
        due("how many", x.mustStay(1, 0), 1);
    }

    private static void mustStayBounds() {
        MissedTown x = SentencesOfCosts.onlyOn(0);
        Checks.law(x, "nx(d=19);n0(1=1)");
        due("one day", x.mustStay(1, 0), 0);
        due("nineteen", x.mustStay(19, 0), 0);
        due("twenty", x.mustStay(20, 0), 2);
        due("who", x.mustStay(20, 1), 3);
        Checks.law(x, "nx(d=20);n0(1=1)");
        due("not the twenty-first", x.mustStay(20, 0), 0);
        MissedTown all = ten("n1(a>0);n0(1=1)");
        Checks.leaves(all, "a0-0,b0-0,c0-0,d0-0,e0-0,f0-0,g0-0,h0-0,i0-0,j0-0");
        due("all ten", all.mustStay(20, 0), 10);
        due("all ten, who", all.mustStay(20, 1), 1023);
        due("nobody has a leave", all.home() == 10 ? all.mustStay(20, 1) : -9, 0);
    }

    private static void evenIfAllStay() {
        MissedTown x = SentencesOfCosts.onlyOn(0);
        due("both", x.mustStay(1, 1), 3);
        x.chore(0, 11);
        due("one unit too many", x.mustStay(1, 0), -2);
        due("who", x.mustStay(1, 1), -2);
        x.chore(0, 10);
        Checks.law(x, "nx+1(d=5)");
        due("not yet", x.mustStay(5, 0), 2);
        due("on the sixth day", x.mustStay(6, 0), -2);
        x.home();
        due("nobody has a leave", x.mustStay(6, 0), -2);
    }

    private static void mustStayRefused() {
        int[][] wrong = {{0, 0}, {21, 0}, {-1, 0}, {1, -1}, {1, 2}, {Integer.MAX_VALUE, 0}};
        for (int[] w : wrong) {
            Twins.refused("mustStay(" + w[0] + ", " + w[1] + ")", x -> x.mustStay(w[0], w[1]), -1);
        }
    }

    private static void halfDone() {
        MissedTown x = PromisesTest.three("a2-3,b2-2,c3-3");
        due("all is made good", x.halfDone(0, 1), 0);
        Checks.law(x, "m1+i(1=1);k(1=1)");
        // a leaves 1 unit of CHORE 0 and 1 of CHORE 2 a day: 4 more on each day of its leave for each day ahead.
        due("a day ahead", x.halfDone(0, 1), 8);
        due("two days ahead", x.halfDone(0, 2), 16);
        Checks.law(x, "m1(d<2|d>3);k(1=1)");
        due("not on days ahead, nor behind", x.halfDone(0, 2), 0);
        Checks.law(x, "m1(d=1|d=4);k(1=1)");
        due("nor next to it", x.halfDone(0, 2), 0);
        Checks.law(x, "m1(d=2);m10(d=3);k(1=1);n0(d>0)");
        due("just ahead of it", x.halfDone(0, 1), 0);
        MissedTown two = SentencesOfCosts.onlyOn(0);
        Checks.law(two, "mu(1=1);k(1=1)");
        Checks.leaves(two, "a2-2,b2-2");
        due("it alone going", two.halfDone(0, 1), 100 - 25);
        MissedTown one = SentencesOfDays.one(0, 5);
        Checks.law(one, "m1(1=1);k(1=1);c5(1=1)");
        Checks.leaves(one, "a2-2");
        due("c 0, whatever the law says", one.halfDone(0, 1), 5);
        Twins.onlyAsks("halfDone(1, 1)", y -> y.halfDone(1, 1));
    }

    private static void halfDoneBounds() {
        MissedTown x = SentencesOfDays.one(5, 5);
        Checks.law(x, "m1(1=1);k(1=1)");
        Checks.leaves(x, "a20-20");
        int[] more = {5, 10, 15, 20};
        for (int days = 1; days <= 4; days++) {
            due(days + " days", x.halfDone(0, days), more[days - 1]);
        }
        due("nineteen days", x.halfDone(0, 19), 99 - 5);
        due("eighteen days", x.halfDone(0, 18), 90);
        due("twenty days", x.halfDone(0, 20), 94);
        due("no day", x.halfDone(0, 0), NO);
        due("twenty-one days", x.halfDone(0, 21), NO);
        Checks.leaves(x, "a30-30");
        due("twenty-one days, far ahead", x.halfDone(0, 21), NO);
    }

    private static void halfDoneTooSoon() {
        MissedTown x = SentencesOfDays.one(5, 5);
        Checks.law(x, "m1(1=1);k(1=1)");
        Checks.leaves(x, "a3-3");
        due("three days are ahead", x.halfDone(0, 3), 15);
        due("four are not", x.halfDone(0, 4), -2);
        x.days(1);
        due("two are ahead", x.halfDone(0, 2), 10);
        due("three are not", x.halfDone(0, 3), -2);
        x.days(2);
        due("today", x.halfDone(0, 1), -2);
        x.days(1);
        due("over", x.halfDone(0, 1), -2);
        Checks.leaves(x, "a0-9");
        due("begun before", x.halfDone(0, 1), -2);
        Checks.leaves(x, "a5-5");
        due("tomorrow", x.halfDone(0, 1) >= 0 ? 1 : 0, 1);
        Checks.leaves(x, "a5-999");
        due("asked first", x.halfDone(0, 2), -2);
        Twins.onlyAsks("halfDone(0, 1)", y -> y.halfDone(0, 1));
    }

    private static void halfDoneTooFar() {
        MissedTown x = SentencesOfDays.one(5, 5);
        Checks.law(x, "m1(d>58);k(1=1)");
        Checks.leaves(x, "a58-59");
        due("59 behind", x.halfDone(0, 1), 5);
        Checks.leaves(x, "a58-60");
        due("60 behind", x.halfDone(0, 1), -3);
        x.days(1);
        due("59 behind a day later", x.halfDone(0, 1), 10);
        Checks.leaves(x, "a1-61");
        due("begun", x.halfDone(0, 1), -2);
        Checks.leaves(x, "a2-61");
        due("60 behind", x.halfDone(0, 1), -3);
        Checks.leaves(x, "a2-999");
        due("far behind", x.halfDone(0, 1), -3);
        Checks.leaves(x, "a500-501");
        due("all of it", x.halfDone(0, 1), -3);
    }

    private static void halfDoneRefused() {
        int[][] wrong = {{-1, 1}, {10, 1}, {3, 1}, {4, 1}, {7, 1}, {1, 0}, {1, 21}, {1, -1}, {1, Integer.MAX_VALUE}, {Integer.MIN_VALUE, 1}};
        for (int[] w : wrong) {
            Twins.refused("halfDone(" + w[0] + ", " + w[1] + ")", x -> x.halfDone(w[0], w[1]), NO);
        }
        Twins.refused("it has no leave", SentencesOfCosts::atHome, x -> x.halfDone(0, 1), NO);
    }

    private static void byTurns() {
        MissedTown x = PromisesTest.three("a0-5,c0-5,h0-9");
        Checks.law(x, "m10(d<1);m1+i+50*[a/2](1=1)");
        // On day 0 a leaves 2 units, b 1, c 5, each by 10; later a costs 4, b 3, c 12.
        due("missed", x.byTurns(3, 1, 10), 14);
        due("b first", x.byTurns(3, 1, 0), 1);
        due("then a", x.byTurns(3, 1, 1), 0);
        due("three", x.byTurns(7, 1, 10), 10 + 4 + 12);
        due("b", x.byTurns(7, 1, 0), 1);
        due("a", x.byTurns(7, 1, 1), 0);
        due("c", x.byTurns(7, 1, 2), 2);
        x.days(1);
        Checks.law(x, "m1+i(d<2);m10(d=2);m1(1=1)");
        // From THE DAY, 1, on: on day 1 by 4, 3 and 12, on day 2 by 20, 10 and 50.
        due("a first now", x.byTurns(3, 1, 0), 0);
        due("missed", x.byTurns(3, 1, 10), 14);
        due("two days each", x.byTurns(3, 2, 10), 3 + 10 + 2 + 2);
        Twins.onlyAsks("byTurns(15, 10, 10)", y -> y.byTurns(15, 10, 10));
        Twins.onlyAsks("byTurns(15, 10, 3)", y -> y.byTurns(15, 10, 3));
    }

    private static void byTurnsLike() {
        MissedTown x = ten("m1(1=1)");
        int set = 1 << 1 | 1 << 4 | 1 << 7 | 1 << 9;
        int[] row = {1, 4, 7, 9};
        for (int place = 0; place < 4; place++) {
            due("place " + place, x.byTurns(set, 10, place), row[place]);
        }
        due("missed", x.byTurns(set, 10, 10), 40);
        x = PromisesTest.three("");
        x.person(3, 6);
        Checks.doers(x, "1:bd;2:d");
        Checks.law(x, "m9(d=0);m1+i(1=1)");
        // a and d are missed; b and c are not, if d does what they do.
        due("c is not missed", x.mayor(1, 12), 0);
        due("those who are like stand by numbers", x.byTurns(14, 1, 0), 2);
    }

    private static void byTurnsBounds() {
        for (int size = 2; size <= 4; size++) {
            MissedTown x = ten("m1(d=39)");
            int set = (1 << size) - 1 << 10 - size;
            for (int m = 1; m <= 10; m++) {
                Checks.law(x, "m7(d=" + (size * m - 1) + ")");
                due("the last day counts", x.byTurns(set, m, 10), 7);
                Checks.law(x, "m7(d=" + size * m + ")");
                due("the next does not", x.byTurns(set, m, 10), 0);
            }
            for (int place = 0; place < size; place++) {
                due("at place " + place, x.byTurns(set, 1, place), 10 - size + place);
            }
            due("no more places", x.byTurns(set, 1, size), -1);
        }
        MissedTown last = SentencesOfCosts.onlyOn(0);
        Checks.law(last, "mu(d=39|d=9)");
        last.person(3, 0);
        due("who is not missed on day 39", last.byTurns(15, 10, 3), 3);
        due("nor on day 9", last.byTurns(15, 10, 0), 2);
    }

    private static void byTurnsRefused() {
        int[][] wrong = {{0, 1, 10}, {1, 1, 10}, {17, 1, 10}, {129, 1, 10}, {1025, 1, 10}, {-1, 1, 10}, {3, 0, 10}, {3, 11, 10}, {3, -1, 10}, {3, 1, -1}, {3, 1, 2}, {3, 1, 9},
            {3, 1, 11}, {7, 1, 3}, {15, 1, 4}, {Integer.MIN_VALUE | 1, 1, 10}};
        for (int[] w : wrong) {
            Twins.refused("byTurns(" + w[0] + ", " + w[1] + ", " + w[2] + ")", x -> x.byTurns(w[0], w[1], w[2]), -1);
        }
        due("five of them", ten("m1(1=1)").byTurns(31, 1, 10), -1);
        due("all ten", ten("m1(1=1)").byTurns(1023, 1, 10), -1);
    }

    private static void firstDoer() {
        MissedTown x = PromisesTest.three("a0-0");
        due("nobody makes it less", x.firstDoer(0, 1, 0), -2);
        x.person(3, 9);
        x.person(4, 9);
        due("of two like ones", x.firstDoer(0, 1, 0), 3);
        due("missed", x.firstDoer(0, 1, 1), 0);
        due("at CHORE 2", x.firstDoer(2, 1, 0), 3);
        due("missed then", x.firstDoer(2, 1, 1), 1);
        Checks.leaves(x, "a0-0,d0-0");
        due("all going on their leaves", x.firstDoer(0, 1, 0), 4);
        due("on a day with all", x.firstDoer(0, 1, 1), 0);
        Checks.leaves(x, "a0-0,d0-0,h0-0");
        Checks.law(x, "m1+i(a=3)");
        due("told or not", x.firstDoer(0, 1, 0), 4);
        Checks.leaves(x, "a0-0,d0-0");
        due("nothing is missed with two away", x.firstDoer(0, 1, 0), -2);
        Checks.law(x, "m1+i(1=1)");
        x.person(5, 20);
        x.person(4, 1);
        due("least, not the lowest that makes it less", x.firstDoer(0, 1, 0), 5);
        due("the doers stay", x.choreIs(0, 2), 2);
        Twins.onlyAsks("firstDoer(0, 60, 0)", y -> y.firstDoer(0, 60, 0));
        Twins.onlyAsks("firstDoer(3, 60, 1)", y -> y.firstDoer(3, 60, 1));
    }

    private static void firstDoerNobody() {
        MissedTown lowest = SentencesOfDays.one(3, 5);
        lowest.person(1, 1);
        Checks.doers(lowest, "0:b");
        due("the lowest there is", lowest.firstDoer(0, 1, 0), 0);
        due("missed by it", lowest.firstDoer(0, 1, 1), 1);
        MissedTown x = SentencesOfDays.one(3, 5);
        due("who it is already", x.firstDoer(0, 1, 0), -2);
        due("missed as it is", x.firstDoer(0, 1, 1), 2);
        x.person(9, 1);
        due("one unit less", x.firstDoer(0, 1, 0), 9);
        due("missed then", x.firstDoer(0, 1, 1), 1);
        Checks.law(x, "c3(1=1)");
        due("nothing is missed anyway", x.firstDoer(0, 1, 0), -2);
        due("nothing", x.firstDoer(0, 60, 1), 0);
        MissedTown none = new MissedTown();
        none.chore(11, 4);
        Checks.law(none, "m1(1=1)");
        due("nobody is told", none.firstDoer(11, 1, 0), -2);
        due("missed so", none.firstDoer(11, 2, 1), 8);
    }

    private static void firstDoerRefused() {
        int[][] wrong = {{-1, 1, 0}, {12, 1, 0}, {4, 1, 0}, {32, 1, 0}, {0, 0, 0}, {0, 61, 0}, {0, -1, 0}, {0, 1, -1}, {0, 1, 2}, {Integer.MIN_VALUE, 1, 0}};
        for (int[] w : wrong) {
            Twins.refused("firstDoer(" + w[0] + ", " + w[1] + ", " + w[2] + ")", x -> x.firstDoer(w[0], w[1], w[2]), -1);
        }
    }
}
