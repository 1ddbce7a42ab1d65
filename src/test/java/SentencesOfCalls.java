/** The sentences on what is told, asked, kept and refused: promises 1 to 13 and 30 to 34, and what the Terms end with. */
final class SentencesOfCalls {
    private SentencesOfCalls() {
    }

    static void all() {
        Sentence.of("What it is", "An object is used for at most 512 calls after it has been made; what later calls answer is free.", SentencesOfCalls::allCalls);
        Sentence.of("Terms", "KEPT: UNDONE, MISSED, THE DAY, X, LEAVES; UNDONE as it was KEPT last by undo().", SentencesOfCalls::kept);
        Sentence.of("Terms", "CHECK: UNDONE of CHORES: right, or the first number that is not so.", SentencesOfCalls::check);
        Sentence.of("Terms", "All memory is the town's own.", SentencesOfCalls::ownMemory);
        Sentence.of("Terms", "A call that is refused (NONE, false) changes nothing but the tape, where it is told.", SentencesOfCalls::faultsChangeTheTape);
        Sentence.of("Terms", "`NONE = -1`: There is none.", SentencesOfCalls::none);
        Sentence.of("Promise 1", "No PEOPLE, CHORES, LAW; THE SEED 1.", SentencesOfCalls::newObject);
        Sentence.of("Promise 2", "A PERSON (in place of the one before; its LEAVE stays): true;", SentencesOfCalls::personAgain);
        Sentence.of("Promise 2", "false: no such ones.", SentencesOfCalls::personRefused);
        Sentence.of("Promise 3", "A CHORE (in place of the one before; its DOERS stay; nothing UNDONE): true;", SentencesOfCalls::choreAgain);
        Sentence.of("Promise 3", "false: no such ones.", SentencesOfCalls::choreRefused);
        Sentence.of("Promise 4", "RAIN: true; false: no such tenths.", SentencesOfCalls::rain);
        Sentence.of("Promise 5", "Twenty bytes come behind the tape, the highest of each int first: how many it has;", SentencesOfCalls::feed);
        Sentence.of("Promise 5", "NONE if that would be more than 260.", SentencesOfCalls::feedFull);
        Sentence.of("Promise 6", "THE LAW by the first n bytes of the tape (1 to 240; empty then), in place of the one before: how many CLAUSES;", SentencesOfCalls::law);
        Sentence.of("Promise 6", "a FAULT: -1000 times its number, less its place (the one before stays);", SentencesOfCalls::lawFault);
        Sentence.of("Promise 6", "NONE: no such n, it has not so many (the tape stays).", SentencesOfCalls::lawRefused);
        Sentence.of("Promise 7", "DOERS by the first n bytes of the tape (1 to 120; empty then), in place of those of the CHORES in it"
                + " (told or not; of one that comes twice the later ones): how many LINES;", SentencesOfCalls::doers);
        Sentence.of("Promise 7", "a FAULT; NONE: as above.", SentencesOfCalls::doersRefused);
        Sentence.of("Promise 8", "LEAVES by the first n bytes of the tape (1 to 120; empty then), in place of all before: how many;", SentencesOfCalls::leaves);
        Sentence.of("Promise 8", "a FAULT; NONE: as above.", SentencesOfCalls::leavesRefused);
        Sentence.of("Promise 9", "All come back: nobody has a LEAVE: how many had one.", SentencesOfCalls::home);
        Sentence.of("Promise 10", "DAYS (1 to 60) go by (as many as can): how much is MISSED in them;", SentencesOfCalls::days);
        Sentence.of("Promise 10", "NONE: no such n.", SentencesOfCalls::daysRefused);
        Sentence.of("Promise 11", "DAYS (1 to 60; as many as can) that are tried, what 0 how much is MISSED, 1 rainy ones, 2 units that are UNDONE then,"
                + " 3 units that are done, 4 DAYS on which nothing is UNDONE, 10 + i units UNDONE of told CHORE i then, 30 + p units that told PERSON p does;",
                SentencesOfCalls::tried);
        Sentence.of("Promise 11", "NONE: no such ones.", SentencesOfCalls::triedRefused);
        Sentence.of("Promise 12", "Of a told PERSON, what 0 CAP, 1, 2 first and last DAY of its LEAVE (-2: none), 3 whether it is away today (1, 0),"
                + " 4 told CHORES of which it is a DOER (bits);", SentencesOfCalls::personIs);
        Sentence.of("Promise 12", "NONE for others.", SentencesOfCalls::personIsRefused);
        Sentence.of("Promise 13", "Of a told CHORE, what 0 AMOUNT, 1 UNDONE, 2 how many DOERS, 10 + j DOER at place j; NONE for others.", SentencesOfCalls::choreIs);
        Sentence.of("Promise 30", "THE SEED (0 to 65535; X, too): true; false: no such number.", SentencesOfCalls::seed);
        Sentence.of("Promise 31", "KEPT: THE DAY.", SentencesOfCalls::keep);
        Sentence.of("Promise 32", "As it was KEPT last: true; false: none was KEPT.", SentencesOfCalls::undo);
        Sentence.of("Promise 33", "CHECK by the first n bytes of the tape (0 to 12; empty then; of CHORES that are not told 0): NONE: right;"
                + " else the place of the first one that is not so;", SentencesOfCalls::checkBytes);
        Sentence.of("Promise 33", "-2: no such n, it has not so many (the tape stays).", SentencesOfCalls::checkRefused);
        Sentence.of("Promise 34", "0 THE DAY, 1 MISSED so far, 2 told PEOPLE (bits), 3 told CHORES (bits), 4 who is away today (bits), 5 CLAUSES, 6 bytes of the tape,"
                + " 7 X, 8 RAIN, 9 who has a LEAVE (bits). NONE for others.", SentencesOfCalls::count);
    }

    private static void due(String call, long got, long want) {
        Checks.due(call, got, want);
    }

    private static void due(String call, boolean got, boolean want) {
        Checks.due(call, got, want);
    }

    private static void counts(String when, MissedTown x, int... wants) {
        for (int what = 0; what < wants.length; what++) {
            due(when + ", count(" + what + ")", x.count(what), wants[what]);
        }
    }

    private static void kept() {
        MissedTown x = PromisesTest.three("a0-1,b1-2,h3-4");
        x.days(1);
        x.keep();
        int[] undone = {x.choreIs(0, 1), x.choreIs(1, 1), x.choreIs(2, 1)};
        due("UNDONE", undone[0] * 100 + undone[1] * 10 + undone[2], 101);
        changeAll(x);
        x.undo();
        counts("what is kept is back, what is told is not", x, 1, 4, 15, 15, 3, 2, 20, 39022, 5, 131);
        for (int i = 0; i < 3; i++) {
            due("UNDONE of " + i, x.choreIs(i, 1), undone[i]);
        }
        due("UNDONE of one that was not told", x.choreIs(3, 1), 0);
        int[] firsts = {0, 1, -2, -2};
        int[] lasts = {1, 2, -2, -2};
        for (int p = 0; p < 4; p++) {
            due("first day of " + p, x.personIs(p, 1), firsts[p]);
            due("last day of " + p, x.personIs(p, 2), lasts[p]);
        }
        due("the cap stays new", x.personIs(0, 0), 9);
        due("the amount stays new", x.choreIs(1, 0), 8);
        due("the doers stay new", x.choreIs(0, 2), 3);
        due("the one that was not told has its leave", x.person(7, 1) ? x.personIs(7, 2) : 0, 4);
    }

    private static void changeAll(MissedTown x) {
        Checks.law(x, "m2(1=1);n3(1=1)");
        Checks.doers(x, "0:cab");
        Checks.leaves(x, "c0-9,d0-9");
        x.person(0, 9);
        x.person(3, 4);
        x.chore(1, 8);
        x.chore(3, 8);
        x.rain(5);
        x.days(5);
        x.feed(1, 2, 3, 4, 5);
    }

    private static void check() {
        MissedTown x = PromisesTest.three("c0-0");
        x.days(1);
        due("right", Checks.check(x, 0, 3, 2), -1);
        int[][] wrong = {{1, 3, 2, 0}, {0, 2, 2, 1}, {0, 4, 2, 1}, {0, 3, 1, 2}, {0, 3, 3, 2}, {1, 2, 3, 0}, {255, 3, 2, 0}, {0, 3, 2 + 128, 2}};
        for (int[] w : wrong) {
            due("the first that is not so", Checks.check(x, w[0], w[1], w[2]), w[3]);
        }
        Checks.law(x, "n99(1=1);c0(1=1)");
        x.days(1);
        due("99 units", Checks.check(x, 99, 99, 99), -1);
        Twins.alike("check(0) of a tape", readAway(Twins.town()), SentencesOfTown.emptyTape());
    }

    private static MissedTown readAway(MissedTown x) {
        x.check(12);
        return x;
    }

    private static void ownMemory() {
        MissedTown x = Twins.town();
        MissedTown other = new MissedTown();
        for (int p = 0; p < 10; p++) {
            other.person(p, 20);
        }
        Checks.law(other, "m9(1=1)");
        Checks.doers(other, "0:j;1:j;2:j;3:j");
        Checks.leaves(other, "a0-9,b0-9,d0-9");
        other.chore(0, 20);
        other.rain(10);
        other.days(60);
        other.keep();
        other.feed(1, 2, 3, 4, 5);
        Twins.alike("another town", x, Twins.town());
        due("the other", other.count(0), 60);
    }

    private static void faultsChangeTheTape() {
        Twins.fault("m5(1=1);k(1=", x -> x.law(12), -1012);
        Twins.fault("x", x -> x.law(1), -1000);
        Twins.fault("m123456(1=1)", x -> x.law(12), -2006);
        Twins.fault("k(1=1);".repeat(16) + "k(1=1)", x -> x.law(118), -4112);
        Twins.fault("k(((((((1=1)))))))", x -> x.law(18), -5007);
        Twins.fault("0:c;1:a;2:b;3:c;9:j;12:a", x -> x.doers(24), -3020);
        Twins.fault("0:c;1:a;9:j;x", x -> x.doers(13), -1012);
        Twins.fault("0:a;".repeat(12) + "0:b", x -> x.doers(51), -4048);
        Twins.fault("0:c;9:jj", x -> x.doers(8), -6007);
        Twins.fault("d1-2,a5-9,j", x -> x.leaves(11), -1011);
        Twins.fault("a0-1,b0-1,c0-1,d0-1,e0-1,f0-1,g0-1,h0-1,i0-1,j0-1,a0-1", x -> x.leaves(54), -4050);
        Twins.fault("d1-2,d3-4", x -> x.leaves(9), -6005);
        Twins.fault("d1-2,a5-4", x -> x.leaves(9), -7008);
    }

    private static void none() {
        due("NONE", MissedTown.NONE, -1);
        due("none", new MissedTown().count(10), MissedTown.NONE);
    }

    private static void newObject() {
        MissedTown x = new MissedTown();
        counts("new", x, 0, 0, 0, 0, 0, 0, 0, 1, 0, 0);
        for (int p = 0; p < 10; p++) {
            due("person " + p, x.personIs(p, 0), -1);
        }
        for (int i = 0; i < 12; i++) {
            due("chore " + i, x.choreIs(i, 0), -1);
        }
        due("nothing is kept", x.undo(), false);
        due("nothing to do", x.tried(60, 4), 60);
        due("nobody to come back", x.home(), 0);
    }

    /** All 512 calls that an object is made for are answered alike. */
    private static void allCalls() {
        MissedTown many = new MissedTown();
        for (int call = 1; call <= 512; call++) {
            due("call " + call, many.days(1), 0);
        }
        MissedTown fed = new MissedTown();
        for (int call = 1; call <= 256; call++) {
            due("feed", fed.feed(call, 0, 0, 0, 0), 20);
            due("call " + 2 * call, fed.check(0), -1);
        }
    }

    private static void personAgain() {
        MissedTown x = SentencesOfDays.one(4, 9);
        Checks.leaves(x, "a2-3");
        due("again", x.person(0, 7), true);
        due("in its place", x.personIs(0, 0), 7);
        due("it does more", x.tried(1, 10), 2);
        due("its first day", x.personIs(0, 1), 2);
        due("its last day", x.personIs(0, 2), 3);
        due("one is told", x.count(2), 1);
        due("its chores stay", x.personIs(0, 4), 1);
        due("MISSED and the day stay", x.count(0) + x.count(1), 0);
    }

    private static void personRefused() {
        int[][] wrong = {{-1, 5}, {10, 5}, {0, -1}, {0, 21}, {4, -1}, {4, 21}, {32, 5}, {Integer.MIN_VALUE, 0}, {0, Integer.MIN_VALUE}, {Integer.MAX_VALUE, 20}};
        for (int[] w : wrong) {
            Twins.refused("person(" + w[0] + ", " + w[1] + ")", x -> x.person(w[0], w[1]) ? 1 : 0, 0);
        }
    }

    private static void choreAgain() {
        MissedTown x = SentencesOfDays.one(4, 9);
        Checks.law(x, "k(1=1);m1(1=1)");
        x.days(1);
        due("undone", x.choreIs(0, 1), 5);
        due("again", x.chore(0, 9), true);
        due("nothing undone", x.choreIs(0, 1), 0);
        due("nothing is carried", x.tried(1, 10), 5);
        due("its doers stay", x.choreIs(0, 2), 1);
        due("one is told", x.count(3), 1);
        due("what was missed stays", x.count(1), 5);
        x.days(1);
        x.chore(1, 3);
        due("another one does not count", x.choreIs(0, 1), 5);
        x.chore(0, 0);
        due("amount 0", x.tried(1, 10), 0);
    }

    private static void choreRefused() {
        int[][] wrong = {{-1, 5}, {12, 5}, {0, -1}, {0, 21}, {2, -1}, {2, 21}, {32, 5}, {Integer.MIN_VALUE, 0}, {0, Integer.MIN_VALUE}, {Integer.MAX_VALUE, 20}};
        for (int[] w : wrong) {
            Twins.refused("chore(" + w[0] + ", " + w[1] + ")", x -> x.chore(w[0], w[1]) ? 1 : 0, 0);
        }
    }

    private static void rain() {
        MissedTown x = new MissedTown();
        for (int tenths = 0; tenths <= 10; tenths++) {
            due("rain(" + tenths + ")", x.rain(tenths), true);
            due("RAIN", x.count(8), tenths);
        }
        for (int tenths : new int[] {Integer.MIN_VALUE, -1, 11, Integer.MAX_VALUE}) {
            Twins.refused("rain(" + tenths + ")", y -> y.rain(tenths) ? 1 : 0, 0);
        }
        // The first ten draws: 2 7 6 5 2 9 6 7 2 9.
        int[] rainy = {0, 0, 0, 3, 3, 3, 4, 6, 8, 8, 10};
        for (int tenths = 0; tenths <= 10; tenths++) {
            x.rain(tenths);
            due("rainy ones of ten by " + tenths, x.tried(10, 1), rainy[tenths]);
        }
    }

    private static void feed() {
        MissedTown x = new MissedTown();
        for (int i = 0; i < 12; i++) {
            x.chore(i, 0);
        }
        Checks.law(x, "ni+1(1=1)");
        x.days(1);
        due("twenty", x.feed(0x01020304, 0x05060708, 0x090a0b0c, 0, 0), 20);
        due("in their order", x.check(12), -1);
        x.feed(0x04030201, 0x05060708, 0x090a0b0c, 0, 0);
        due("the highest first", x.check(12), 0);
        due("of the last int, too", x.feed(0x6d312831, 0x3d31293b, 0x6e322831, 0x3d31293b, 0x63332831), 20);
        due("behind the tape", x.feed(0x3d31293b, 0x6b28753e, 0x30290000, 0, 0), 40);
        due("four clauses of both", x.law(30), 4);
        due("bytes of 128 to 255", x.feed(-1, 0x80808080, 0, 0, 0), 20);
        due("255 is no letter", x.doers(1), -1000);
        Checks.law(x, "n99(1=1)");
        x.days(1);
        x.feed(0xe3636363, 0, 0, 0, 0);
        due("227 is not 99", x.check(1), 0);
    }

    private static void feedFull() {
        MissedTown x = new MissedTown();
        for (int k = 1; k <= 13; k++) {
            due("feed " + k, x.feed(0x6d312831, 0x3d31293b, 0, 0, 0), 20 * k);
        }
        due("280 would be more", x.feed(0, 0, 0, 0, 0), -1);
        due("260 stay", x.count(6), 260);
        due("as they were", x.law(7), 1);
        due("empty then", x.count(6), 0);
        due("there is room again", x.feed(0, 0, 0, 0, 0), 20);
        Twins.refused("feed to a full one", SentencesOfCalls::fullTape, y -> y.feed(1, 2, 3, 4, 5), -1);
        due("full", fullTape().count(6), 260);
    }

    private static MissedTown fullTape() {
        MissedTown x = Twins.town();
        for (int k = 0; k < 12; k++) {
            x.feed(-1, -1, -1, -1, -1);
        }
        return x;
    }

    private static void law() {
        MissedTown x = SentencesOfDays.one(0, 1);
        Checks.feed(x, "m5(1=1);m6(1=1);n2(1=1)");
        due("the first seven", x.law(7), 1);
        due("all forty are gone", x.count(6), 0);
        due("missed by 5", x.tried(1, 0), 5);
        Checks.law(x, "n3(1=1);k(1=1)");
        due("in place of the one before", x.tried(1, 0), 0);
        due("its own", x.tried(1, 10), 3);
        due("two clauses", x.count(5), 2);
        for (int k = 1; k <= 90; k++) {
            due("law " + k, Checks.law(x, "m" + k + "(1=1&2=2)"), 1);
            due("missed by it alone", x.tried(1, 0), k);
        }
        Checks.feed(x, "m1(1=1)");
        due("one byte", x.law(1), -1001);
        String most = "m11(" + "1=1&".repeat(58) + "1=1)";
        Checks.feed(x, most);
        due("240 bytes", x.law(240), 1);
        due("in place of two", x.count(5), 1);
    }

    private static void lawFault() {
        MissedTown x = SentencesOfDays.one(0, 1);
        Checks.law(x, "m5(1=1);m6(1=1)");
        String[] texts = {"x", "n9(1=1);x", "m123456", "k(1=1);".repeat(16) + "m", "k(((((((", "m" + "1+".repeat(119)};
        int[] wants = {-1000, -1008, -2006, -4112, -5007, -1239};
        for (int k = 0; k < texts.length; k++) {
            due(texts[k], Checks.law(x, texts[k]), wants[k]);
            due("the one before stays", x.tried(1, 0), 5);
            due("its clauses, too", x.count(5), 2);
            due("the tape is empty", x.count(6), 0);
        }
        MissedTown none = SentencesOfDays.one(0, 1);
        due("240 bytes and the end", Checks.law(none, "m1" + "+1".repeat(119)), -1240);
    }

    private static void lawRefused() {
        for (int n : new int[] {Integer.MIN_VALUE, -1, 0, 41, 241, Integer.MAX_VALUE}) {
            Twins.refused("law(" + n + ") of 40", x -> x.law(n), -1);
        }
        for (int n : new int[] {241, 260, 261}) {
            Twins.refused("law(" + n + ") of 260", SentencesOfCalls::fullTape, x -> x.law(n), -1);
        }
        Twins.refused("law(1) of none", SentencesOfTown::emptyTape, x -> x.law(1), -1);
        MissedTown x = new MissedTown();
        Checks.feed(x, "m1(1=1)");
        due("twenty are there", x.law(21), -1);
        due("and are read", x.law(20), -1007);
    }

    private static void doers() {
        MissedTown x = new MissedTown();
        Checks.doers(x, "0:ab;1:c;2:d");
        due("three lines", Checks.doers(x, "1:ef;11:j;1:gh"), 3);
        int[] lengths = {2, 2, 1, 0, 0, 0, 0, 0, 0, 0, 0, 1};
        int[] firsts = {0, 6, 3, -1, -1, -1, -1, -1, -1, -1, -1, 9};
        for (int i = 0; i < 12; i++) {
            x.chore(i, 1);
            due("how many of " + i, x.choreIs(i, 2), lengths[i]);
            due("the first of " + i, x.choreIs(i, 10), firsts[i]);
        }
        due("the second of the later ones", x.choreIs(1, 11), 7);
        due("no third", x.choreIs(1, 12), -1);
        Checks.doers(x, "1:abc;1:d;2:a;2:bcd");
        due("later ones that are fewer", x.choreIs(1, 2), 1);
        due("later ones that are more", x.choreIs(2, 2), 3);
        due("a shorter row", Checks.doers(x, "0:j"), 1);
        due("one", x.choreIs(0, 2), 1);
        due("no second", x.choreIs(0, 11), -1);
        Checks.feed(x, "3:a;4:bZ");
        due("the first seven bytes", x.doers(7), 2);
        due("all are gone", x.count(6), 0);
        Checks.feed(x, "3:a");
        due("one byte", x.doers(1), -1001);
    }

    private static void doersRefused() {
        for (int n : new int[] {Integer.MIN_VALUE, -1, 0, 41, 121, Integer.MAX_VALUE}) {
            Twins.refused("doers(" + n + ") of 40", x -> x.doers(n), -1);
        }
        for (int n : new int[] {121, 260, 261}) {
            Twins.refused("doers(" + n + ") of 260", SentencesOfCalls::fullTape, x -> x.doers(n), -1);
        }
        Twins.refused("doers(1) of none", SentencesOfTown::emptyTape, x -> x.doers(1), -1);
        due("120 of 260", fullTape().doers(120), -1000);
        MissedTown x = new MissedTown();
        Checks.doers(x, "5:ab");
        due("a fault", Checks.doers(x, "5:c;6:d;7:"), -1010);
        due("they stay", x.chore(5, 1) ? x.choreIs(5, 2) : 0, 2);
        due("none of the others", x.chore(6, 1) ? x.choreIs(6, 2) : -9, 0);
        Checks.doers(x, "8:a");
        due("nor with a right text behind it", x.choreIs(6, 2), 0);
        due("they still stay", x.choreIs(5, 10), 0);
    }

    private static void leaves() {
        MissedTown x = new MissedTown();
        Checks.leaves(x, "a1-2,b3-4,j5-6");
        due("two", Checks.leaves(x, "b7-8,c9-10"), 2);
        due("in place of all", x.count(9), 6);
        due("its first day", x.person(1, 1) ? x.personIs(1, 1) : 0, 7);
        Checks.feed(x, "d1-2,e3-4,Z");
        due("the first nine bytes", x.leaves(9), 2);
        due("all are gone", x.count(6), 0);
        due("d and e", x.count(9), 24);
        Checks.feed(x, "d1-2");
        due("one byte", x.leaves(1), -1001);
        due("d and e still", x.count(9), 24);
    }

    private static void leavesRefused() {
        for (int n : new int[] {Integer.MIN_VALUE, -1, 0, 41, 121, Integer.MAX_VALUE}) {
            Twins.refused("leaves(" + n + ") of 40", x -> x.leaves(n), -1);
        }
        for (int n : new int[] {121, 260, 261}) {
            Twins.refused("leaves(" + n + ") of 260", SentencesOfCalls::fullTape, x -> x.leaves(n), -1);
        }
        Twins.refused("leaves(1) of none", SentencesOfTown::emptyTape, x -> x.leaves(1), -1);
        due("120 of 260", fullTape().leaves(120), -1000);
        MissedTown x = new MissedTown();
        Checks.leaves(x, "a1-2,b3-4");
        due("a fault", Checks.leaves(x, "c1-2,d"), -1006);
        due("they stay", x.count(9), 3);
        Checks.leaves(x, "e1-2");
        due("no others with a right text behind it", x.count(9), 16);
    }

    private static void home() {
        for (int many = 0; many <= 10; many++) {
            MissedTown x = SentencesOfDays.one(5, 5);
            StringBuilder text = new StringBuilder();
            for (int p = 0; p < many; p++) {
                text.append(p > 0 ? "," : "").append((char) ('a' + p)).append("0-9");
            }
            if (many > 0) {
                Checks.leaves(x, text.toString());
            }
            due(many + " had one", x.home(), many);
            due("nobody has one", x.count(9), 0);
            due("nobody is away", x.count(4), 0);
            due("none", x.personIs(0, 1), -2);
            due("nothing is missed", x.tried(10, 0), 0);
            due("nobody had one then", x.home(), 0);
        }
    }

    private static void days() {
        MissedTown x = SentencesOfDays.one(1, 3);
        due("one", x.days(1), 2);
        due("THE DAY", x.count(0), 1);
        due("sixty", x.days(60), 120);
        due("THE DAY", x.count(0), 61);
        due("MISSED so far", x.count(1), 122);
        SentencesOfDays.goTo(x, 9997);
        due("as many as can: two of sixty", x.days(60), 4);
        due("THE DAY", x.count(0), 9999);
        due("none of one", x.days(1), 0);
    }

    private static void daysRefused() {
        for (int n : new int[] {Integer.MIN_VALUE, -1, 0, 61, Integer.MAX_VALUE}) {
            Twins.refused("days(" + n + ")", x -> x.days(n), -1);
        }
    }

    private static void tried() {
        MissedTown x = PromisesTest.three("a0-1,b1-2,c3-3");
        x.rain(3);
        int[][] wants = {{1, 0, 4}, {4, 0, 25}, {60, 0, 25}, {1, 1, 1}, {4, 1, 1}, {5, 1, 2}, {1, 2, 2}, {4, 2, 5}, {60, 2, 0}, {1, 3, 8}, {4, 3, 28}, {5, 3, 38},
            {4, 4, 0}, {5, 4, 1}, {60, 4, 56}, {1, 10, 1}, {4, 11, 3}, {4, 12, 2}, {60, 12, 0}, {4, 30, 6}, {4, 31, 4}, {4, 32, 18}, {5, 30, 9}};
        for (int[] w : wants) {
            due("tried(" + w[0] + ", " + w[1] + ")", x.tried(w[0], w[1]), w[2]);
        }
        x.person(9, 3);
        x.chore(11, 4);
        due("of chore 11", x.tried(1, 21), 4);
        due("of person 9", x.tried(1, 39), 0);
        MissedTown lawless = new MissedTown();
        lawless.chore(0, 1);
        due("nothing is missed", lawless.tried(9, 0), 0);
        due("but something is undone", lawless.tried(9, 4), 0);
        SentencesOfDays.goTo(x, 9998);
        due("as many as can", x.tried(60, 3), 10);
        due("it is not so clear", x.tried(60, 4), 0);
    }

    private static void triedRefused() {
        int[][] wrong = {{0, 0}, {61, 0}, {-1, 0}, {1, -1}, {1, 5}, {1, 9}, {1, 14}, {1, 21}, {1, 22}, {1, 29}, {1, 34}, {1, 37}, {1, 39}, {1, 40}, {0, 10}, {61, 30},
            {1, Integer.MIN_VALUE}, {1, Integer.MAX_VALUE}, {Integer.MAX_VALUE, 0}, {1, 42}, {1, 62}};
        for (int[] w : wrong) {
            Twins.refused("tried(" + w[0] + ", " + w[1] + ")", x -> x.tried(w[0], w[1]), -1);
        }
    }

    private static void personIs() {
        MissedTown x = PromisesTest.three("a2-5");
        Checks.doers(x, "7:abc;11:a");
        int[][] wants = {{0, 0, 4}, {0, 1, 2}, {0, 2, 5}, {0, 3, 0}, {0, 4, 1}, {1, 0, 2}, {1, 1, -2}, {1, 2, -2}, {1, 3, 0}, {1, 4, 3}, {2, 4, 6}};
        for (int[] w : wants) {
            due("personIs(" + w[0] + ", " + w[1] + ")", x.personIs(w[0], w[1]), w[2]);
        }
        x.chore(7, 0);
        x.chore(11, 0);
        due("told ones of a", x.personIs(0, 4), 1 | 1 << 7 | 1 << 11);
        due("told ones of b", x.personIs(1, 4), 3 | 1 << 7);
        x.person(9, 20);
        due("of none", x.personIs(9, 4), 0);
        x.days(2);
        due("away today", x.personIs(0, 3), 1);
        x.days(3);
        due("on the last day", x.personIs(0, 3), 1);
        x.days(1);
        due("no more", x.personIs(0, 3), 0);
        due("its first day still", x.personIs(0, 1), 2);
    }

    private static void personIsRefused() {
        int[][] wrong = {{-1, 0}, {10, 0}, {4, 0}, {7, 1}, {7, 3}, {0, -1}, {0, 5}, {0, Integer.MAX_VALUE}, {Integer.MIN_VALUE, 0}, {32, 0}};
        for (int[] w : wrong) {
            Twins.refused("personIs(" + w[0] + ", " + w[1] + ")", x -> x.personIs(w[0], w[1]), -1);
        }
    }

    private static void choreIs() {
        MissedTown x = PromisesTest.three("a0-0");
        Checks.doers(x, "11:jihgfedcba");
        x.days(1);
        x.chore(11, 20);
        int[][] wants = {{0, 0, 3}, {0, 1, 1}, {0, 2, 2}, {0, 10, 0}, {0, 11, 1}, {0, 12, -1}, {1, 1, 0}, {1, 10, 1}, {2, 2, 1}, {2, 11, -1}, {11, 0, 20}, {11, 1, 0},
            {11, 2, 10}, {11, 10, 9}, {11, 19, 0}, {11, 20, -1}};
        for (int[] w : wants) {
            due("choreIs(" + w[0] + ", " + w[1] + ")", x.choreIs(w[0], w[1]), w[2]);
        }
        int[][] wrong = {{-1, 0}, {12, 0}, {4, 0}, {4, 10}, {0, -1}, {0, 3}, {0, 9}, {0, 12}, {0, Integer.MAX_VALUE}, {0, Integer.MIN_VALUE}, {3, 10}, {32, 0}};
        for (int[] w : wrong) {
            Twins.refused("choreIs(" + w[0] + ", " + w[1] + ")", y -> y.choreIs(w[0], w[1]), -1);
        }
    }

    private static void seed() {
        MissedTown x = new MissedTown();
        int[][] wants = {{0, 13849}, {1, 39022}, {65534, 29039}, {65535, 54212}};
        for (int[] w : wants) {
            due("seed(" + w[0] + ")", x.seed(w[0]), true);
            due("X, too", x.count(7), w[0]);
            x.days(1);
            due("X then", x.count(7), w[1]);
        }
        for (int seed : new int[] {Integer.MIN_VALUE, -1, 65536, Integer.MAX_VALUE}) {
            Twins.refused("seed(" + seed + ")", y -> y.seed(seed) ? 1 : 0, 0);
        }
    }

    private static void keep() {
        MissedTown x = SentencesOfDays.one(1, 3);
        due("on day 0", x.keep(), 0);
        x.days(7);
        due("on day 7", x.keep(), 7);
        due("again", x.keep(), 7);
        counts("nothing changes", x, 7, 14, 1, 1, 0, 1, 0, x.count(7), 0, 0);
        SentencesOfDays.goTo(x, 9999);
        due("on the last day", x.keep(), 9999);
    }

    private static void undo() {
        Twins.refused("none was kept", () -> PromisesTest.three("a0-3"), x -> x.undo() ? 1 : 0, 0);
        MissedTown x = SentencesOfDays.one(1, 3);
        x.days(3);
        due("none was kept", x.undo(), false);
        due("nothing changed", x.count(0), 3);
        x.keep();
        x.days(4);
        x.keep();
        x.days(5);
        due("as it was kept last", x.undo(), true);
        due("THE DAY", x.count(0), 7);
        due("MISSED", x.count(1), 14);
        x.days(1);
        due("once more", x.undo(), true);
        due("the same", x.count(0), 7);
        due("at once", x.undo(), true);
        due("still the same", x.count(0), 7);
        SentencesOfDays.goTo(x, 9999);
        x.undo();
        due("back from the last day", x.count(0), 7);
        due("days go by again", x.days(1), 2);
    }

    private static void checkBytes() {
        MissedTown x = new MissedTown();
        x.chore(0, 1);
        x.chore(11, 20);
        x.days(1);
        for (int n = 0; n <= 12; n++) {
            int[] units = new int[n];
            if (n > 0) {
                units[n - 1] = n == 12 ? 20 : 0;
                units[0] = 1;
            }
            due("right, of " + n, n == 0 ? x.check(0) : Checks.check(x, units), -1);
            due("empty then", x.count(6), 0);
            if (n > 0) {
                units[n - 1]++;
                due("wrong at the last of " + n, Checks.check(x, units), n - 1);
                due("empty then", x.count(6), 0);
            }
        }
        x.feed(0x07000000, 0, 0, 0, 0);
        due("of none all is right", x.check(0), -1);
        due("and the tape is empty", x.count(6), 0);
    }

    private static void checkRefused() {
        for (int n : new int[] {Integer.MIN_VALUE, -1, 13, 20, 40, 41, Integer.MAX_VALUE}) {
            Twins.refused("check(" + n + ")", x -> x.check(n), -2);
        }
        Twins.refused("check(1) of none", SentencesOfTown::emptyTape, x -> x.check(1), -2);
        Twins.refused("check(12) of none", SentencesOfTown::emptyTape, x -> x.check(12), -2);
    }

    private static void count() {
        MissedTown x = PromisesTest.three("a0-1,b1-2,h0-3");
        x.rain(7);
        x.days(1);
        x.feed(0, 0, 0, 0, 0);
        counts("a day later", x, 1, 4, 7, 7, 131, 1, 20, 39022, 7, 131);
        x.person(9, 0);
        x.chore(11, 0);
        due("told people", x.count(2), 519);
        due("told chores", x.count(3), 2055);
        x.days(1);
        due("away today", x.count(4), 130);
        for (int what : new int[] {Integer.MIN_VALUE, -1, 10, 11, Integer.MAX_VALUE}) {
            Twins.refused("count(" + what + ")", y -> y.count(what), -1);
        }
    }
}
