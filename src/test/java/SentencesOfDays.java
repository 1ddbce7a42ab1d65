/** The Terms' sentences on PEOPLE, CHORES, A DAY and DRAWS. */
final class SentencesOfDays {
    private SentencesOfDays() {
    }

    static void all() {
        Sentence.of("Terms", "PEOPLE 0 to 9: told or not; a CAP (0 to 20 units a DAY).", SentencesOfDays::people);
        Sentence.of("Terms", "CHORES 0 to 11: told or not; an AMOUNT (0 to 20 units a DAY)", SentencesOfDays::chores);
        Sentence.of("Terms", "its DOERS in a row (up to 10 PEOPLE; none at first)", SentencesOfDays::rows);
        Sentence.of("Terms", "UNDONE units (0 to 99; 0 at first)", SentencesOfDays::undone);
        Sentence.of("Terms", "RAIN (tenths that a DAY is rainy; 0 at first).", SentencesOfDays::rainAtFirst);
        Sentence.of("Terms", "THE DAY (0 at first).", SentencesOfDays::dayAtFirst);
        Sentence.of("Terms", "MISSED so far (0 at first).", SentencesOfDays::missedAtFirst);
        Sentence.of("Terms", "A DAY: with a DRAW: below RAIN it rains.", SentencesOfDays::rains);
        Sentence.of("Terms", "Each told PERSON that is not away can do c units.", SentencesOfDays::toldAndNotAway);
        Sentence.of("Terms", "Each told CHORE, by numbers:", SentencesOfDays::byNumbers);
        Sentence.of("Terms", "n units are needed, and those UNDONE, if k holds for it (asked with u as it is from the DAY before, r, a of this DAY):",
                SentencesOfDays::carried);
        Sentence.of("Terms", "r, a of this DAY): 99 at most;", SentencesOfDays::neededAtMost);
        Sentence.of("Terms", "its DOERS, in their row, each does as many as it still can;", SentencesOfDays::inTheirRow);
        Sentence.of("Terms", "what is left is UNDONE now: MISSED by m (asked now) for each unit.", SentencesOfDays::missedByUnit);
        Sentence.of("Terms", "THE DAY is one more (9999 at most: then none goes by).", SentencesOfDays::lastDay);
        Sentence.of("Terms", "THE DAY is one more (9999 at most: then none goes by).", SentencesOfDays::triedAtTheEnd);
        Sentence.of("Terms", "DRAWS: X = (25173 X + 13849) modulo 65536 (X is THE SEED at first, 1): X modulo 10.", SentencesOfDays::draws);
    }

    private static void due(String call, long got, long want) {
        Checks.due(call, got, want);
    }

    private static void due(String call, boolean got, boolean want) {
        Checks.due(call, got, want);
    }

    /** One PERSON who does one CHORE, of which each unit that is undone is missed by 1. */
    static MissedTown one(int cap, int amount) {
        MissedTown x = new MissedTown();
        x.person(0, cap);
        x.chore(0, amount);
        Checks.doers(x, "0:a");
        Checks.law(x, "m1(1=1)");
        return x;
    }

    /** As many days as are needed go by. */
    static void goTo(MissedTown x, int day) {
        for (int k = 0; k < 200 && x.count(0) < day; k++) {
            x.days(Math.min(60, day - x.count(0)));
        }
    }

    private static void people() {
        MissedTown x = new MissedTown();
        for (int p : new int[] {Integer.MIN_VALUE, -1, 10, 32, 64, Integer.MAX_VALUE}) {
            due("person(" + p + ", 5)", x.person(p, 5), false);
        }
        for (int cap : new int[] {Integer.MIN_VALUE, -1, 21, Integer.MAX_VALUE}) {
            due("person(3, " + cap + ")", x.person(3, cap), false);
        }
        due("nobody is told", x.count(2), 0);
        for (int p = 0; p < 10; p++) {
            due("person(" + p + ", " + 2 * p + ")", x.person(p, 2 * p), true);
            due("told", x.count(2), (1 << p + 1) - 1);
            due("cap", x.personIs(p, 0), 2 * p);
        }
        due("none above", x.personIs(10, 0), -1);
        due("none below", x.personIs(-1, 0), -1);
        due("a cap of 20", x.person(9, 20), true);
        x.chore(0, 20);
        Checks.law(x, "n25(1=1)");
        Checks.doers(x, "0:aj");
        due("0 units a day, and 20", x.tried(1, 10), 5);
        due("by the one with 0", x.tried(1, 30), 0);
        due("by the one with 20", x.tried(1, 39), 20);
    }

    private static void chores() {
        MissedTown x = new MissedTown();
        for (int i : new int[] {Integer.MIN_VALUE, -1, 12, 32, 64, Integer.MAX_VALUE}) {
            due("chore(" + i + ", 5)", x.chore(i, 5), false);
        }
        for (int amount : new int[] {Integer.MIN_VALUE, -1, 21, Integer.MAX_VALUE}) {
            due("chore(3, " + amount + ")", x.chore(3, amount), false);
        }
        due("none is told", x.count(3), 0);
        for (int i = 0; i < 12; i++) {
            int amount = i == 11 ? 20 : i;
            due("chore(" + i + ", " + amount + ")", x.chore(i, amount), true);
            due("told", x.count(3), (1 << i + 1) - 1);
            due("amount", x.choreIs(i, 0), amount);
            due("needed", x.tried(1, 10 + i), amount);
        }
        due("none above", x.choreIs(12, 0), -1);
        due("none below", x.choreIs(-1, 0), -1);
    }

    private static void rows() {
        MissedTown x = new MissedTown();
        for (int i = 0; i < 12; i++) {
            x.chore(i, 1);
            due("no doers", x.choreIs(i, 2), 0);
            due("no first one", x.choreIs(i, 10), -1);
        }
        due("ten of them", Checks.doers(x, "11:jcbadefghi"), 1);
        int[] row = {9, 2, 1, 0, 3, 4, 5, 6, 7, 8};
        due("ten", x.choreIs(11, 2), 10);
        for (int place = 0; place < 10; place++) {
            due("at place " + place, x.choreIs(11, 10 + place), row[place]);
        }
        due("no eleventh", x.choreIs(11, 20), -1);
        due("those of the one ahead", x.choreIs(10, 2), 0);
        for (int p = 0; p < 10; p++) {
            x.person(p, 1);
        }
        Checks.law(x, "n11(i=11);n0(1=1)");
        due("all ten do a unit", x.tried(1, 21), 1);
    }

    private static void undone() {
        MissedTown x = new MissedTown();
        x.chore(0, 20);
        x.chore(11, 0);
        due("0 at first", x.choreIs(0, 1), 0);
        Checks.law(x, "k(1=1)");
        for (int want : new int[] {20, 40, 60, 80, 99, 99}) {
            x.days(1);
            due("undone on day " + x.count(0), x.choreIs(0, 1), want);
            due("of the other", x.choreIs(11, 1), 0);
        }
        Checks.law(x, "n0(1=1)");
        x.days(1);
        due("0 again", x.choreIs(0, 1), 0);
    }

    private static void rainAtFirst() {
        MissedTown x = new MissedTown();
        due("RAIN", x.count(8), 0);
        due("no rainy day of sixty", x.tried(60, 1), 0);
        x.rain(10);
        due("each of sixty", x.tried(60, 1), 60);
    }

    private static void dayAtFirst() {
        MissedTown x = one(0, 1);
        due("THE DAY", x.count(0), 0);
        Checks.law(x, "m7(d=0);m1(1=1)");
        due("d", x.days(1), 7);
        due("d then", x.days(1), 1);
    }

    private static void missedAtFirst() {
        MissedTown x = one(0, 3);
        due("MISSED", x.count(1), 0);
        x.days(2);
        due("two days", x.count(1), 6);
        // As much as ever can be missed in all days that there are fits into an int.
        MissedTown full = new MissedTown();
        for (int i = 0; i < 12; i++) {
            full.chore(i, 20);
        }
        Checks.law(full, "n99(1=1);m99(1=1)");
        due("a day", full.days(1), 117612);
        goTo(full, 9999);
        due("all days", full.count(1), 1176002388);
    }

    private static void rains() {
        // The first draw of each of these seeds is its place in the row.
        int[] seeds = {25, 12, 1, 28, 15, 2, 33, 20, 7, 0};
        MissedTown x = one(0, 1);
        Checks.law(x, "m1+r(1=1)");
        for (int draw = 0; draw < 10; draw++) {
            x.seed(seeds[draw]);
            x.rain(draw);
            due("draw " + draw + ", rain " + draw, x.tried(1, 1), 0);
            due("r", x.tried(1, 0), 1);
            x.rain(draw + 1);
            due("draw " + draw + ", rain " + (draw + 1), x.tried(1, 1), 1);
            due("r", x.tried(1, 0), 2);
        }
    }

    private static void toldAndNotAway() {
        MissedTown x = new MissedTown();
        x.chore(0, 20);
        Checks.doers(x, "0:abc");
        x.person(0, 3);
        x.person(2, 5);
        due("b is not told", x.tried(1, 10), 12);
        x.person(1, 4);
        due("b is told", x.tried(1, 10), 8);
        Checks.leaves(x, "c1-2");
        int[] left = {8, 13, 13, 8};
        for (int day = 0; day < 4; day++) {
            due("c is away on 1 and 2", x.tried(day + 1, 10), left[day]);
        }
        Checks.law(x, "c10-p(1=1)");
        due("c units each", x.tried(1, 10), 0);
        due("of a", x.tried(1, 30), 10);
        due("of b", x.tried(1, 31), 9);
        due("of c", x.tried(1, 32), 1);
    }

    private static void byNumbers() {
        MissedTown x = new MissedTown();
        x.person(0, 5);
        x.chore(11, 2);
        x.chore(2, 2);
        x.chore(0, 2);
        Checks.doers(x, "11:a;2:a;0:a");
        due("all of chore 0", x.tried(1, 10), 0);
        due("all of chore 2", x.tried(1, 12), 0);
        due("one unit of chore 11", x.tried(1, 21), 1);
        Checks.doers(x, "1:a");
        due("chore 1 is not told", x.tried(1, 3), 5);
        x.chore(1, 2);
        due("now it is", x.tried(1, 12), 1);
        due("nothing left for chore 11", x.tried(1, 21), 2);
    }

    private static void carried() {
        MissedTown x = one(1, 4);
        Checks.law(x, "k(u=3&r=0&a=0)");
        x.days(1);
        due("three are left", x.choreIs(0, 1), 3);
        due("and are to be done, too", x.tried(1, 10), 6);
        x.rain(10);
        due("not if it rains on this day", x.tried(1, 10), 3);
        x.rain(0);
        Checks.leaves(x, "b1-1");
        due("not if one is away on this day", x.tried(1, 10), 3);
        Checks.leaves(x, "b0-0,c2-9");
        due("the day before and the day behind don't matter", x.tried(1, 10), 6);
        Checks.law(x, "k(u=4)");
        due("u is not of this day", x.tried(1, 10), 3);
        // Of each CHORE for itself.
        x.chore(1, 5);
        x.days(1);
        Checks.law(x, "k(u=5)");
        due("of chore 0 it does not hold", x.tried(1, 10), 3);
        due("of chore 1 it does", x.tried(1, 11), 10);
    }

    private static void neededAtMost() {
        int[][] units = {{8, 98}, {9, 99}, {10, 99}, {99, 99}};
        for (int[] u : units) {
            MissedTown x = new MissedTown();
            x.chore(0, 0);
            Checks.law(x, "n" + u[0] + "(d=0);n90(1=1);k(1=1);m1(1=1)");
            due("the first day", x.days(1), u[0]);
            due("90 more", x.days(1), u[1]);
            due("undone", x.choreIs(0, 1), u[1]);
        }
        // Who can do one unit does it of the 99, not of what lies beyond them.
        MissedTown x = one(1, 20);
        Checks.law(x, "n99(1=1);k(1=1)");
        due("98 of 99", x.tried(1, 10), 98);
        due("98 of 99 again", x.tried(2, 10), 98);
    }

    private static void inTheirRow() {
        MissedTown x = new MissedTown();
        x.person(0, 2);
        x.person(1, 2);
        x.person(2, 2);
        x.chore(0, 3);
        x.chore(1, 3);
        Checks.doers(x, "0:ba;1:cab");
        int[] did = {2, 2, 2};
        for (int p = 0; p < 3; p++) {
            due("did", x.tried(1, 30 + p), did[p]);
        }
        due("chore 0 is done", x.tried(1, 10), 0);
        due("chore 1 is done", x.tried(1, 11), 0);
        x.chore(1, 0);
        due("b first", x.tried(1, 31), 2);
        due("a then", x.tried(1, 30), 1);
        x.chore(0, 2);
        due("b just can", x.tried(1, 31), 2);
        due("nothing for a", x.tried(1, 30), 0);
        x.chore(0, 4);
        x.chore(1, 3);
        due("c alone still can", x.tried(1, 11), 1);
        due("each day anew", x.tried(2, 30), 4);
    }

    private static void missedByUnit() {
        MissedTown x = one(3, 3);
        Checks.law(x, "m50+u(1=1)");
        due("nothing is left", x.days(1), 0);
        x.chore(0, 4);
        due("one unit", x.days(1), 51);
        x.chore(0, 7);
        due("four units, each by 54", x.days(1), 216);
        due("so far", x.count(1), 267);
        due("undone now", x.choreIs(0, 1), 4);
        due("not on the next day, too", x.days(1), 216);
        x.chore(1, 2);
        Checks.law(x, "m1+10*i(1=1)");
        due("of two chores", x.days(1), 4 + 22);
    }

    private static void lastDay() {
        MissedTown x = one(1, 3);
        x.rain(10);
        goTo(x, 9938);
        due("sixty days up to 9998", x.tried(60, 0), 120);
        due("sixty days", x.days(60), 120);
        due("THE DAY", x.count(0), 9998);
        due("the last day that can go by", x.tried(60, 1), 1);
        Checks.law(x, "m1+w(d=9998);m9(d=9999)");
        due("d is 9998 and w 2 on it", x.days(60), 6);
        due("9999", x.count(0), 9999);
        int drawn = x.count(7);
        int missed = x.count(1);
        due("none goes by", x.days(1), 0);
        due("nor of sixty", x.days(60), 0);
        due("THE DAY", x.count(0), 9999);
        due("X", x.count(7), drawn);
        due("MISSED", x.count(1), missed);
        due("UNDONE", x.choreIs(0, 1), 2);
        due("no such n still", x.days(61), -1);
        due("KEPT", x.keep(), 9999);
    }

    private static void triedAtTheEnd() {
        MissedTown x = one(1, 3);
        x.rain(10);
        goTo(x, 9940);
        due("59 of sixty", x.tried(60, 1), 59);
        due("missed in them", x.tried(60, 0), 118);
        due("done in them", x.tried(60, 3), 59);
        goTo(x, 9999);
        int[] want = {0, 0, 2, 0, 0};
        for (int what = 0; what < 5; what++) {
            due("tried(60, " + what + ")", x.tried(60, what), want[what]);
        }
        due("undone as it is", x.tried(1, 10), 2);
        due("nobody does anything", x.tried(1, 30), 0);
        due("no cost", x.cost(1, 60), 0);
        due("as it is at the end of no day", Checks.stopped(x, 2), 1025);
        due("none by much", x.holds(20, 1, 0), -2);
        due("nobody by nothing", x.holds(20, 0, 1), 0);
        due("the mayor", x.mayor(60, 1), 0);
        due("nothing in no days", x.mustStay(20, 0), 0);
        due("the first day is today", x.when(0, 20, 30, 0), 9999);
        due("it is not missed", x.when(0, 20, 30, 1), 0);
    }

    private static void draws() {
        int[][] rows = {{1, 39022, 61087, 20196, 45005}, {0, 13849}, {65535, 54212}, {3915, 0, 13849}, {33870, 65535, 54212}};
        for (int[] row : rows) {
            MissedTown x = new MissedTown();
            due("X is 1 at first", x.count(7), 1);
            x.seed(row[0]);
            for (int k = 1; k < row.length; k++) {
                x.days(1);
                due("X of seed " + row[0], x.count(7), row[k]);
            }
        }
        MissedTown x = new MissedTown();
        int[] draws = {2, 7, 6, 5, 2, 9, 6, 7, 2, 9, 6, 1};
        for (int draw : draws) {
            x.rain(draw);
            due("not below " + draw, x.tried(1, 1), 0);
            x.rain(draw + 1);
            due("below " + (draw + 1), x.tried(1, 1), 1);
            x.days(1);
        }
    }
}
