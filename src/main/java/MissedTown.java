import java.util.Arrays;

/** A town whose chores are done each day by those who can, and who of them is most missed. */
public final class MissedTown {
    public static final int NONE = -1;

    private static final int NO_SUCH = -1000000000;
    private static final int NOBODY = -2;
    private static final int PEOPLE = 10;
    private static final int CHORES = 12;
    private static final int EVERYBODY = 1023;
    private static final int MOST_DAYS = 60;
    private static final int LAST_DAY = 9999;
    private static final int MOST_UNITS = 99;
    private static final int NO_LIMIT = 2147483647;

    private static final int[] FACTORIALS = {1, 1, 2, 6, 24, 120};

    private final Tape tape;
    private final Town town;
    private final State now;
    private final State kept;
    private final Law rules;
    private final LawReader lawReader;
    private final DoersReader doersReader;
    private final LeavesReader leavesReader;
    private final Trial trial;
    private final int[] subsetCosts;
    private boolean hasKept;

    public MissedTown() {
        tape = new Tape();
        town = new Town();
        now = new State();
        kept = new State();
        rules = new Law();
        Text text = new Text(tape);
        lawReader = new LawReader(text);
        doersReader = new DoersReader(text);
        leavesReader = new LeavesReader(text);
        trial = new Trial(town, rules);
        subsetCosts = new int[32];
    }

    // ---- what is told

    public boolean person(int p, int cap) {
        if (!within(p, 0, PEOPLE - 1) || !within(cap, 0, 20)) {
            return false;
        }
        town.people |= 1 << p;
        town.cap[p] = cap;
        return true;
    }

    public boolean chore(int i, int amount) {
        if (!within(i, 0, CHORES - 1) || !within(amount, 0, 20)) {
            return false;
        }
        town.chores |= 1 << i;
        town.amount[i] = amount;
        now.undone[i] = 0;
        return true;
    }

    public boolean rain(int tenths) {
        if (!within(tenths, 0, 10)) {
            return false;
        }
        town.rainTenths = tenths;
        return true;
    }

    public int feed(int a, int b, int c, int d, int e) {
        if (!tape.hasRoomFor(20)) {
            return NONE;
        }
        tape.addWord(a);
        tape.addWord(b);
        tape.addWord(c);
        tape.addWord(d);
        tape.addWord(e);
        return tape.length;
    }

    public int law(int n) {
        if (!tape.canGive(n, 1, 240)) {
            return NONE;
        }
        int answer = lawReader.read(n);
        if (answer > 0) {
            rules.copy(lawReader.draft);
        }
        tape.length = 0;
        return answer;
    }

    public int doers(int n) {
        if (!tape.canGive(n, 1, 120)) {
            return NONE;
        }
        int answer = doersReader.read(n);
        if (answer > 0) {
            doersReader.giveTo(town);
        }
        tape.length = 0;
        return answer;
    }

    public int leaves(int n) {
        if (!tape.canGive(n, 1, 120)) {
            return NONE;
        }
        int answer = leavesReader.read(n);
        if (answer > 0) {
            leavesReader.giveTo(now);
        }
        tape.length = 0;
        return answer;
    }

    public int home() {
        int had = Integer.bitCount(now.leaveBits());
        now.endLeaves(EVERYBODY);
        return had;
    }

    public boolean seed(int x) {
        if (!within(x, 0, 65535)) {
            return false;
        }
        now.drawn = x;
        return true;
    }

    // ---- days that go by, or are tried

    public int days(int n) {
        if (!isDayCount(n)) {
            return NONE;
        }
        trial.begin(now);
        int gone = trial.run(n, NO_LIMIT);
        now.copy(trial.state);
        return gone;
    }

    public int tried(int n, int what) {
        boolean known = within(what, 0, 4) || town.hasChore(what - 10) || town.hasPerson(what - 30);
        if (!isDayCount(n) || !known) {
            return NONE;
        }
        trial.begin(now);
        int much = trial.run(n, NO_LIMIT);
        switch (what) {
            case 0:
                return much;
            case 1:
                return trial.rainyDays;
            case 2:
                return trial.state.allUndone();
            case 3:
                return trial.allDone();
            case 4:
                return trial.clearDays;
            default:
                return what < 30 ? trial.state.undone[what - 10] : trial.did[what - 30];
        }
    }

    // ---- what is known

    public int personIs(int p, int what) {
        if (!town.hasPerson(p)) {
            return NONE;
        }
        switch (what) {
            case 0:
                return town.cap[p];
            case 1:
                return now.first[p];
            case 2:
                return now.last[p];
            case 3:
                return now.isAway(p) ? 1 : 0;
            case 4:
                return town.choresOf(p);
            default:
                return NONE;
        }
    }

    public int choreIs(int i, int what) {
        if (!town.hasChore(i)) {
            return NONE;
        }
        switch (what) {
            case 0:
                return town.amount[i];
            case 1:
                return now.undone[i];
            case 2:
                return town.rowLength[i];
            default:
                return within(what - 10, 0, town.rowLength[i] - 1) ? town.rows[i * PEOPLE + what - 10] : NONE;
        }
    }

    public int count(int what) {
        switch (what) {
            case 0:
                return now.day;
            case 1:
                return now.missedSoFar;
            case 2:
                return town.people;
            case 3:
                return town.chores;
            case 4:
                return now.awayBits();
            case 5:
                return rules.clauses;
            case 6:
                return tape.length;
            case 7:
                return now.drawn;
            case 8:
                return town.rainTenths;
            case 9:
                return now.leaveBits();
            default:
                return NONE;
        }
    }

    // ---- what leaves cost

    public int cost(int set, int n) {
        return isDayCount(n) && areTold(set) ? costIf(set, n, NONE, NONE, NONE) : NONE;
    }

    public int missed(int p, int n) {
        if (!isDayCount(n) || !canLeave(p)) {
            return NO_SUCH;
        }
        return costIf(1 << p, n, NONE, NONE, NONE) - costIf(0, n, NONE, NONE, NONE);
    }

    public int together(int p, int q, int n) {
        if (!isDayCount(n) || !canLeave(p) || !canLeave(q) || p == q) {
            return NO_SUCH;
        }
        int both = costIf(1 << p | 1 << q, n, NONE, NONE, NONE);
        int nobody = costIf(0, n, NONE, NONE, NONE);
        int alone = costIf(1 << p, n, NONE, NONE, NONE);
        int other = costIf(1 << q, n, NONE, NONE, NONE);
        return both + nobody - alone - other;
    }

    public int share(int set, int p, int n, int what) {
        int size = Integer.bitCount(set);
        boolean leaving = areTold(set) && (set & ~now.leaveBits()) == 0 && within(size, 1, 5);
        if (!isDayCount(n) || !leaving || !within(what, 0, 2)) {
            return NO_SUCH;
        }
        if (what != 2 && !isIn(set, p)) {
            return NO_SUCH;
        }
        for (int part = 0; part < 1 << size && part < subsetCosts.length; part++) {
            subsetCosts[part] = costIf(membersOf(set, part), n, NONE, NONE, NONE);
        }
        if (what == 2) {
            return memberAt(set, placeOfMost(size));
        }
        int above = sumOfOrders(Integer.bitCount(set & ((1 << p) - 1)), size);
        int below = FACTORIALS[size];
        int divisor = commonDivisor(Math.abs(above), below);
        return (what == 0 ? above : below) / divisor;
    }

    public int spoilt(int p, int q, int n) {
        boolean asked = q == PEOPLE || town.hasPerson(q) && q != p;
        if (!isDayCount(n) || !canLeave(p) || !asked) {
            return NO_SUCH;
        }
        int usual = costIf(1 << p, n, NONE, NONE, NONE) - costIf(0, n, NONE, NONE, NONE);
        if (q != PEOPLE) {
            return costIf(1 << p, n, q, NONE, NONE) - costIf(0, n, q, NONE, NONE) - usual;
        }
        int most = usual;
        int who = NOBODY;
        for (int other = 0; other < PEOPLE; other++) {
            if (other != p && town.hasPerson(other)) {
                int much = costIf(1 << p, n, other, NONE, NONE) - costIf(0, n, other, NONE, NONE);
                if (much > most) {
                    most = much;
                    who = other;
                }
            }
        }
        return who;
    }

    public int when(int p, int m, int n, int what) {
        if (!town.hasPerson(p) || !within(m, 1, 20) || !within(n, 1, 30) || !within(what, 0, 1)) {
            return NO_SUCH;
        }
        int most = NONE;
        int best = 0;
        for (int wait = 0; wait < n; wait++) {
            int much = missedIfAway(p, now.day + wait, m, n + m);
            if (much > most) {
                most = much;
                best = wait;
            }
        }
        return what == 0 ? now.day + best : most - missedIfAway(p, NOBODY, 1, n + m);
    }

    public int against(int p, int q, int stretches, int m, int what) {
        boolean both = town.hasPerson(p) && town.hasPerson(q) && p != q;
        if (!both || !within(stretches, 2, 5) || !within(m, 1, 10) || !within(what, 0, 2)) {
            return NO_SUCH;
        }
        // What both cost together falls out of one's SHARE less the other's: each gains what it costs alone less
        // what the other costs alone, so neither gains by moving just where each costs most alone.
        int ofP = bestStretches(p, q, stretches, m);
        int ofQ = bestStretches(q, p, stretches, m);
        switch (what) {
            case 0:
                return Integer.bitCount(ofP) * Integer.bitCount(ofQ);
            case 1:
                return memberAt(ofP, 0);
            default:
                return memberAt(ofQ, 0);
        }
    }

    // ---- who it was, and who matters

    public int stopped(int n) {
        if (!tape.canGive(n, 1, CHORES)) {
            return NONE;
        }
        int fit = 0;
        for (int p = 0; p <= PEOPLE; p++) {
            if (p == PEOPLE || town.hasPerson(p)) {
                runAway(p == PEOPLE ? 0 : 1 << p, 1, NO_LIMIT);
                fit |= firstOther(trial.state, n) == NONE ? 1 << p : 0;
            }
        }
        tape.length = 0;
        return fit;
    }

    public int holds(int n, int much, int what) {
        if (!within(n, 1, 20) || !within(much, 0, 999999) || !within(what, 0, 1)) {
            return NONE;
        }
        int enough = runAway(0, n, NO_LIMIT) + much;
        for (int size = 0; size <= PEOPLE; size++) {
            for (int set = 0; set <= EVERYBODY; set++) {
                boolean meant = Integer.bitCount(set) == size && areTold(set);
                if (meant && runAway(set, n, enough) >= enough) {
                    return what == 0 ? size : set;
                }
            }
        }
        return NOBODY;
    }

    public int mayor(int n, int what) {
        boolean known = within(what, 0, 1) || town.hasPerson(what - 10);
        if (!isDayCount(n) || !known) {
            return NO_SUCH;
        }
        int nobody = runAway(0, n, NO_LIMIT);
        if (what >= 10) {
            return runAway(1 << what - 10, n, NO_LIMIT) - nobody;
        }
        int least = NO_LIMIT;
        int who = NOBODY;
        for (int p = 0; p < PEOPLE; p++) {
            if (town.hasPerson(p)) {
                int much = runAway(1 << p, n, least);
                if (much < least) {
                    least = much;
                    who = p;
                }
            }
        }
        return what == 0 || who == NOBODY ? who : least - nobody;
    }

    public int standIn(int p, int q, int i, int n) {
        boolean both = canLeave(p) && town.hasPerson(q) && p != q;
        boolean asked = town.hasChore(i) || i == CHORES && town.chores != 0;
        if (!isDayCount(n) || !both || !asked) {
            return NO_SUCH;
        }
        if (i != CHORES) {
            int usual = costIf(1 << p, n, NONE, NONE, NONE) - costIf(0, n, NONE, NONE, NONE);
            return usual - costIf(1 << p, n, NONE, i, q) + costIf(0, n, NONE, i, q);
        }
        int least = NO_LIMIT;
        int best = NONE;
        for (int other = 0; other < CHORES; other++) {
            if (town.hasChore(other)) {
                int much = costIf(1 << p, n, NONE, other, q) - costIf(0, n, NONE, other, q);
                if (much < least) {
                    least = much;
                    best = other;
                }
            }
        }
        return best;
    }

    public int hired(int units, int set, int n, int what) {
        int size = Integer.bitCount(set);
        boolean asked = areTold(set) && within(size, 1, 3) && (what == 10 || isIn(set, what));
        if (!within(units, 1, 9) || !asked || !isDayCount(n)) {
            return NONE;
        }
        // A row of units is the digits of a number, so that rows come in their order.
        int rows = size == 1 ? 10 : size == 2 ? 100 : 1000;
        int least = NO_LIMIT;
        int best = 0;
        for (int row = 0; row < rows; row++) {
            if (row / 100 + row / 10 % 10 + row % 10 == units) {
                int much = missedIfHired(set, row, n, least);
                if (much < least) {
                    least = much;
                    best = row;
                }
            }
        }
        return what == 10 ? least : hiredUnits(set, best, what);
    }

    public int mustStay(int n, int what) {
        if (!within(n, 1, 20) || !within(what, 0, 1)) {
            return NONE;
        }
        int leaving = now.leaveBits();
        for (int size = 0; size <= PEOPLE; size++) {
            for (int set = 0; set <= EVERYBODY; set++) {
                boolean meant = Integer.bitCount(set) == size && (set & ~leaving) == 0;
                if (meant && allIsDoneIfStay(set, n)) {
                    return what == 0 ? size : set;
                }
            }
        }
        return NOBODY;
    }

    public int halfDone(int p, int days) {
        if (!canLeave(p) || !within(days, 1, 20)) {
            return NO_SUCH;
        }
        if (now.first[p] < now.day + days) {
            return -2;
        }
        if (now.last[p] >= now.day + MOST_DAYS) {
            return -3;
        }
        return missedOnLeave(p, days) - missedOnLeave(p, 0);
    }

    public int byTurns(int set, int m, int what) {
        int size = Integer.bitCount(set);
        boolean asked = areTold(set) && within(size, 2, 4) && (what == 10 || within(what, 0, size - 1));
        if (!asked || !within(m, 1, 10)) {
            return NONE;
        }
        // A row of places in the set is the digits of a number by four, so that rows come in their order.
        int least = NO_LIMIT;
        int best = 0;
        for (int row = 0; row < 1 << 2 * size; row++) {
            if (isOrder(row, size)) {
                int much = missedByTurns(set, row, m, least);
                if (much < least) {
                    least = much;
                    best = row;
                }
            }
        }
        return what == 10 ? least : memberAt(set, digitByFour(best, what, size));
    }

    public int firstDoer(int i, int n, int what) {
        if (!town.hasChore(i) || !isDayCount(n) || !within(what, 0, 1)) {
            return NONE;
        }
        int leaving = now.leaveBits();
        int least = costIf(leaving, n, NONE, NONE, NONE);
        int who = NOBODY;
        for (int p = 0; p < PEOPLE; p++) {
            if (town.hasPerson(p)) {
                int much = costIf(leaving, n, NONE, i, p);
                if (much < least) {
                    least = much;
                    who = p;
                }
            }
        }
        return what == 0 ? who : least;
    }

    // ---- kept and undone

    public int keep() {
        kept.copy(now);
        hasKept = true;
        return now.day;
    }

    public boolean undo() {
        if (hasKept) {
            now.copy(kept);
        }
        return hasKept;
    }

    public int check(int n) {
        if (!tape.canGive(n, 0, CHORES)) {
            return -2;
        }
        int place = firstOther(now, n);
        tape.length = 0;
        return place;
    }

    // ---- what the calls share

    private static boolean within(int x, int least, int most) {
        return x >= least && x <= most;
    }

    private static boolean isDayCount(int n) {
        return n >= 1 && n <= MOST_DAYS;
    }

    private static boolean isIn(int set, int member) {
        return member >= 0 && member < 31 && (set >> member & 1) == 1;
    }

    /** The member of a set at a place, the lowest being at place 0. */
    private static int memberAt(int set, int place) {
        int before = 0;
        for (int member = 0; member < CHORES; member++) {
            if (isIn(set, member)) {
                if (before == place) {
                    return member;
                }
                before++;
            }
        }
        return NONE;
    }

    private boolean areTold(int set) {
        return (set & ~town.people) == 0;
    }

    private boolean canLeave(int p) {
        return town.hasPerson(p) && now.hasLeave(p);
    }

    /** MISSED in n days if just the set goes on leave, one idles and another stands first for a chore. */
    private int costIf(int set, int n, int idle, int chore, int front) {
        trial.begin(now);
        trial.state.endLeaves(~set);
        trial.setIdle(idle, 0, LAST_DAY);
        trial.setFront(chore, front);
        return trial.run(n, NO_LIMIT);
    }

    /** MISSED in n days, or so much of it as is enough, if just the set is away all the time. */
    private int runAway(int set, int n, int enough) {
        trial.begin(now);
        trial.state.endLeaves(EVERYBODY);
        for (int p = 0; p < PEOPLE; p++) {
            if (isIn(set, p)) {
                trial.state.giveLeave(p, now.day, LAST_DAY);
            }
        }
        return trial.run(n, enough);
    }

    /** MISSED in n days if p is away for m days from a first one on (NOBODY: stays), the others as they are. */
    private int missedIfAway(int p, int first, int m, int n) {
        trial.begin(now);
        trial.state.giveLeave(p, first, first == NOBODY ? NOBODY : first + m - 1);
        return trial.run(n, NO_LIMIT);
    }

    /** The stretches (bits) in which p costs most alone, the other staying. */
    private int bestStretches(int p, int other, int stretches, int m) {
        int most = NONE;
        int best = 0;
        for (int k = 0; k < stretches; k++) {
            trial.begin(now);
            trial.state.endLeaves(1 << other);
            trial.state.giveLeave(p, now.day + k * m, now.day + k * m + m - 1);
            int much = trial.run(stretches * m, NO_LIMIT);
            if (much > most) {
                most = much;
                best = 0;
            }
            if (much == most) {
                best |= 1 << k;
            }
        }
        return best;
    }

    /** The first chore whose UNDONE is not what the tape says, or NONE. */
    private int firstOther(State state, int n) {
        for (int i = 0; i < n && i < CHORES; i++) {
            if (tape.at(i) != state.undone[i]) {
                return i;
            }
        }
        return NONE;
    }

    // ---- shares

    /** A part of a set by its number, whose bit k stands for the set's member at place k. */
    private static int membersOf(int set, int part) {
        int members = 0;
        for (int place = 0; place < PEOPLE; place++) {
            if (isIn(part, place)) {
                members |= 1 << memberAt(set, place);
            }
        }
        return members;
    }

    /** What the member at a place adds when it leaves, summed up over all orders. */
    private int sumOfOrders(int place, int size) {
        int sum = 0;
        for (int part = 0; part < 1 << size && part < subsetCosts.length; part++) {
            int with = part | 1 << place;
            int earlier = Integer.bitCount(part);
            if (with != part && with < subsetCosts.length && earlier < size) {
                int orders = FACTORIALS[earlier] * FACTORIALS[size - 1 - earlier];
                sum += orders * (subsetCosts[with] - subsetCosts[part]);
            }
        }
        return sum;
    }

    private int placeOfMost(int size) {
        int best = 0;
        for (int place = 1; place < size; place++) {
            if (sumOfOrders(place, size) > sumOfOrders(best, size)) {
                best = place;
            }
        }
        return best;
    }

    private static int commonDivisor(int a, int b) {
        int x = a;
        int y = b;
        for (int k = 0; k < 64 && y > 0; k++) {
            int rest = x % y;
            x = y;
            y = rest;
        }
        return Math.max(x, 1);
    }

    // ---- rows of units and of turns

    private int missedIfHired(int set, int row, int n, int enough) {
        trial.begin(now);
        for (int p = 0; p < PEOPLE; p++) {
            if (isIn(set, p)) {
                trial.more[p] = hiredUnits(set, row, p);
            }
        }
        return trial.run(n, enough);
    }

    /** The digit of the row that stands for p: the last one is that of the set's highest member. */
    private static int hiredUnits(int set, int row, int p) {
        int behind = Integer.bitCount(set >> p) - 1;
        return behind == 0 ? row % 10 : behind == 1 ? row / 10 % 10 : row / 100;
    }

    private static int digitByFour(int row, int place, int size) {
        return row >> 2 * (size - 1 - place) & 3;
    }

    private static boolean isOrder(int row, int size) {
        int seen = 0;
        for (int place = 0; place < size; place++) {
            seen |= 1 << digitByFour(row, place, size);
        }
        return seen == (1 << size) - 1;
    }

    private int missedByTurns(int set, int row, int m, int enough) {
        int size = Integer.bitCount(set);
        trial.begin(now);
        trial.state.endLeaves(EVERYBODY);
        for (int place = 0; place < size; place++) {
            int first = now.day + place * m;
            trial.state.giveLeave(memberAt(set, digitByFour(row, place, size)), first, first + m - 1);
        }
        return trial.run(size * m, enough);
    }

    // ---- staying, and doing things by halves

    private boolean allIsDoneIfStay(int set, int n) {
        trial.begin(now);
        trial.state.endLeaves(set);
        return trial.staysClear(n);
    }

    /** MISSED on the days of p's leave, it alone going, if it does nothing on so many days ahead of it. */
    private int missedOnLeave(int p, int idleDays) {
        int first = now.first[p];
        trial.begin(now);
        trial.state.endLeaves(~(1 << p));
        trial.setIdle(p, first - idleDays, first - 1);
        int ahead = trial.run(first - now.day, NO_LIMIT);
        return trial.run(now.last[p] - first + 1, NO_LIMIT) - ahead;
    }

    /** The bytes that were fed. */
    private static final class Tape {
        private final int[] bytes = new int[260];
        private int length;

        boolean hasRoomFor(int more) {
            return length + more <= bytes.length;
        }

        void addWord(int word) {
            for (int shift = 24; shift >= 0; shift -= 8) {
                if (length < bytes.length) {
                    bytes[length] = word >> shift & 255;
                    length++;
                }
            }
        }

        boolean canGive(int n, int least, int most) {
            return n >= least && n <= most && n <= length;
        }

        int at(int place) {
            return place >= 0 && place < length ? bytes[place] : NONE;
        }
    }

    /** What is told of people, chores and rain. */
    private static final class Town {
        private int people;
        private int chores;
        private int rainTenths;
        private final int[] cap = new int[PEOPLE];
        private final int[] amount = new int[CHORES];
        private final int[] rows = new int[CHORES * PEOPLE];
        private final int[] rowLength = new int[CHORES];

        boolean hasPerson(int p) {
            return p >= 0 && p < PEOPLE && isIn(people, p);
        }

        boolean hasChore(int i) {
            return i >= 0 && i < CHORES && isIn(chores, i);
        }

        int choresOf(int p) {
            int bits = 0;
            for (int i = 0; i < CHORES; i++) {
                for (int j = 0; j < rowLength[i] && j < PEOPLE; j++) {
                    if (rows[i * PEOPLE + j] == p && isIn(chores, i)) {
                        bits |= 1 << i;
                    }
                }
            }
            return bits;
        }
    }

    /** What days change and what is kept: UNDONE, MISSED, THE DAY, X and LEAVES. */
    private static final class State {
        private final int[] undone = new int[CHORES];
        private final int[] first = new int[PEOPLE];
        private final int[] last = new int[PEOPLE];
        private int missedSoFar;
        private int day;
        private int drawn = 1;

        State() {
            Arrays.fill(first, NOBODY);
            Arrays.fill(last, NOBODY);
        }

        void copy(State other) {
            System.arraycopy(other.undone, 0, undone, 0, CHORES);
            System.arraycopy(other.first, 0, first, 0, PEOPLE);
            System.arraycopy(other.last, 0, last, 0, PEOPLE);
            missedSoFar = other.missedSoFar;
            day = other.day;
            drawn = other.drawn;
        }

        void giveLeave(int p, int from, int to) {
            if (p >= 0 && p < PEOPLE) {
                first[p] = from;
                last[p] = to;
            }
        }

        void endLeaves(int set) {
            for (int p = 0; p < PEOPLE; p++) {
                if (isIn(set, p)) {
                    first[p] = NOBODY;
                    last[p] = NOBODY;
                }
            }
        }

        boolean hasLeave(int p) {
            return p >= 0 && p < PEOPLE && first[p] != NOBODY;
        }

        boolean isAway(int p) {
            return p >= 0 && p < PEOPLE && first[p] <= day && day <= last[p];
        }

        int leaveBits() {
            int bits = 0;
            for (int p = 0; p < PEOPLE; p++) {
                bits |= hasLeave(p) ? 1 << p : 0;
            }
            return bits;
        }

        int awayBits() {
            int bits = 0;
            for (int p = 0; p < PEOPLE; p++) {
                bits |= isAway(p) ? 1 << p : 0;
            }
            return bits;
        }

        int allUndone() {
            int sum = 0;
            for (int i = 0; i < CHORES; i++) {
                sum += undone[i];
            }
            return sum;
        }
    }

    /** Days that are gone through on a copy of the state, with what is asked to be otherwise. */
    private static final class Trial {
        private final Town town;
        private final Law law;
        private final State state = new State();
        private final int[] more = new int[PEOPLE];
        private final int[] can = new int[PEOPLE];
        private final int[] did = new int[PEOPLE];
        private int idle;
        private int idleFrom;
        private int idleTo;
        private int frontChore;
        private int frontPerson;
        private int missedBefore;
        private int rainyDays;
        private int clearDays;

        Trial(Town town, Law law) {
            this.town = town;
            this.law = law;
        }

        void begin(State from) {
            state.copy(from);
            Arrays.fill(more, 0);
            Arrays.fill(did, 0);
            idle = NONE;
            frontChore = NONE;
            missedBefore = from.missedSoFar;
            rainyDays = 0;
            clearDays = 0;
        }

        void setIdle(int p, int from, int to) {
            idle = p;
            idleFrom = from;
            idleTo = to;
        }

        void setFront(int i, int p) {
            frontChore = i;
            frontPerson = p;
        }

        int allDone() {
            int sum = 0;
            for (int p = 0; p < PEOPLE; p++) {
                sum += did[p];
            }
            return sum;
        }

        /** What is MISSED since begin, n days later, or as soon as it is enough: it never gets less. */
        int run(int n, int enough) {
            for (int k = 0; k < n && state.missedSoFar - missedBefore < enough; k++) {
                goThroughDay();
            }
            return state.missedSoFar - missedBefore;
        }

        boolean staysClear(int n) {
            boolean clear = true;
            for (int k = 0; k < n && clear; k++) {
                clear = goThroughDay() == 0;
            }
            return clear;
        }

        /** How many units are UNDONE at the day's end; 0 if none goes by. */
        private int goThroughDay() {
            if (state.day >= LAST_DAY) {
                return 0;
            }
            state.drawn = (25173 * state.drawn + 13849) % 65536;
            boolean rains = state.drawn % 10 < town.rainTenths;
            int away = state.awayBits();
            law.setDay(state.day, rains ? 1 : 0, Integer.bitCount(away));
            int present = town.people & ~away;
            for (int p = 0; p < PEOPLE; p++) {
                can[p] = isIn(present, p) ? unitsOf(p) : 0;
            }
            int left = 0;
            for (int i = 0; i < CHORES; i++) {
                left += isIn(town.chores, i) ? goThroughChore(i) : 0;
            }
            rainyDays += rains ? 1 : 0;
            clearDays += left == 0 ? 1 : 0;
            state.day++;
            return left;
        }

        private int unitsOf(int p) {
            if (p == idle && state.day >= idleFrom && state.day <= idleTo) {
                return 0;
            }
            int cap = town.cap[p] + more[p];
            law.setPerson(p, cap);
            return law.firstOf(Law.CAN, cap);
        }

        private int goThroughChore(int i) {
            int before = state.undone[i];
            law.setChore(i, town.amount[i], before);
            int need = law.firstOf(Law.NEEDED, town.amount[i]);
            if (before > 0 && law.anyOf(Law.CARRIED)) {
                need += before;
            }
            need = Math.min(need, MOST_UNITS);
            if (i == frontChore) {
                need -= work(frontPerson, need);
            }
            for (int j = 0; j < town.rowLength[i] && j < PEOPLE; j++) {
                need -= work(town.rows[i * PEOPLE + j], need);
            }
            state.undone[i] = need;
            if (need > 0) {
                law.setUndone(need);
                state.missedSoFar += need * law.firstOf(Law.MISSING, 0);
            }
            return need;
        }

        private int work(int p, int need) {
            if (p < 0 || p >= PEOPLE) {
                return 0;
            }
            int units = Math.min(can[p], need);
            can[p] -= units;
            did[p] += units;
            return units;
        }
    }

    /** The clauses, as steps for a stack; a text's byte makes one step at most. */
    private static final class Law {
        private static final int MISSING = 0;
        private static final int NEEDED = 1;
        private static final int CAN = 2;
        private static final int CARRIED = 3;

        private static final int NUMBER = 0;
        private static final int LETTER = 1;
        private static final int NOT = 2;
        private static final int SKIP_IF_HOLDS = 3;
        private static final int SKIP_IF_NOT = 4;
        private static final int PLUS = 5;
        private static final int MINUS = 6;
        private static final int TIMES = 7;
        private static final int OVER = 8;
        private static final int MODULO = 9;
        private static final int LESS = 10;
        private static final int MORE = 11;
        private static final int SAME = 12;

        private static final int MOST_CLAUSES = 16;
        private static final int MOST_STEPS = 240;

        private final int[] steps = new int[MOST_STEPS];
        private final int[] kinds = new int[MOST_CLAUSES];
        private final int[] starts = new int[MOST_CLAUSES];
        private final int[] middles = new int[MOST_CLAUSES];
        private final int[] ends = new int[MOST_CLAUSES];
        private final int[] letters = new int[8];
        private final int[] stack = new int[32];
        private int size;
        private int clauses;

        void copy(Law other) {
            System.arraycopy(other.steps, 0, steps, 0, MOST_STEPS);
            System.arraycopy(other.kinds, 0, kinds, 0, MOST_CLAUSES);
            System.arraycopy(other.starts, 0, starts, 0, MOST_CLAUSES);
            System.arraycopy(other.middles, 0, middles, 0, MOST_CLAUSES);
            System.arraycopy(other.ends, 0, ends, 0, MOST_CLAUSES);
            size = other.size;
            clauses = other.clauses;
        }

        void setDay(int day, int rains, int away) {
            letters[3] = day;
            letters[4] = day % 7;
            letters[5] = rains;
            letters[6] = away;
        }

        void setPerson(int p, int cap) {
            letters[0] = 0;
            letters[1] = p;
            letters[2] = cap;
            letters[7] = 0;
        }

        void setChore(int i, int amount, int undone) {
            letters[0] = i;
            letters[1] = 0;
            letters[2] = amount;
            letters[7] = undone;
        }

        void setUndone(int undone) {
            letters[7] = undone;
        }

        /** The E, from 0 to 99, of the first clause of a kind whose C holds, or what is usual. */
        int firstOf(int kind, int usual) {
            for (int k = 0; k < clauses && k < MOST_CLAUSES; k++) {
                if (kinds[k] == kind && reckon(middles[k], ends[k]) != 0) {
                    return Math.max(0, Math.min(MOST_UNITS, reckon(starts[k], middles[k])));
                }
            }
            return usual;
        }

        boolean anyOf(int kind) {
            for (int k = 0; k < clauses && k < MOST_CLAUSES; k++) {
                if (kinds[k] == kind && reckon(middles[k], ends[k]) != 0) {
                    return true;
                }
            }
            return false;
        }

        /** The value of an E, or 1 or 0 of a C; 0 of both if something is divided by 0. */
        private int reckon(int from, int to) {
            int top = 0;
            for (int k = Math.max(from, 0); k < to && k < MOST_STEPS; k++) {
                int step = steps[k] & 15;
                int with = steps[k] >> 4;
                if (step == NUMBER || step == LETTER) {
                    if (top >= stack.length) {
                        return 0;
                    }
                    stack[top] = step == NUMBER ? with : letters[with & 7];
                    top++;
                } else if (top == 0) {
                    return 0;
                } else if (step == NOT) {
                    stack[top - 1] = 1 - stack[top - 1];
                } else if (step == SKIP_IF_HOLDS || step == SKIP_IF_NOT) {
                    // What is skipped lies ahead; what was reckoned stays as the whole's answer.
                    if (stack[top - 1] == (step == SKIP_IF_HOLDS ? 1 : 0)) {
                        k = Math.max(k, with - 1);
                    } else {
                        top--;
                    }
                } else {
                    top--;
                    boolean divides = step == OVER || step == MODULO;
                    if (top == 0 || divides && stack[top] == 0) {
                        return 0;
                    }
                    stack[top - 1] = joined(step, stack[top - 1], stack[top]);
                }
            }
            return top > 0 ? stack[top - 1] : 0;
        }

        private static int joined(int step, int a, int b) {
            switch (step) {
                case PLUS:
                    return a + b;
                case MINUS:
                    return a - b;
                case TIMES:
                    return a * b;
                case OVER:
                    return b == 0 ? 0 : a / b;
                case MODULO:
                    return b == 0 ? 0 : a % b;
                case LESS:
                    return a < b ? 1 : 0;
                case MORE:
                    return a > b ? 1 : 0;
                default:
                    return a == b ? 1 : 0;
            }
        }

        void clear() {
            size = 0;
            clauses = 0;
        }

        void beginClause(int kind) {
            if (clauses < MOST_CLAUSES) {
                kinds[clauses] = kind;
                starts[clauses] = size;
            }
        }

        void beginCondition() {
            if (clauses < MOST_CLAUSES) {
                middles[clauses] = size;
            }
        }

        void endClause() {
            if (clauses < MOST_CLAUSES) {
                ends[clauses] = size;
                clauses++;
            }
        }

        void addStep(int step, int with) {
            if (size < MOST_STEPS) {
                steps[size] = with << 4 | step;
                size++;
            }
        }

        /** Lets a skip that was added at a place go to what comes next. */
        void landSkip(int place) {
            if (place >= 0 && place < size) {
                steps[place] = size << 4 | steps[place] & 15;
            }
        }
    }

    /** The first bytes of the tape, read from the left, with the first fault that was found. */
    private static final class Text {
        private final Tape tape;
        private int end;
        private int place;
        private int fault;

        Text(Tape tape) {
            this.tape = tape;
        }

        void begin(int n) {
            end = n;
            place = 0;
            fault = 0;
        }

        boolean isRight() {
            return fault == 0;
        }

        boolean goesOn() {
            return fault == 0 && place < end;
        }

        /** The byte to be read; NONE at the end and behind a fault, so that no rule goes on there. */
        int sign() {
            boolean isThere = fault == 0 && place >= 0 && place < end && place < tape.length;
            return isThere ? tape.bytes[place] : NONE;
        }

        boolean isDigit() {
            int sign = sign();
            return sign >= '0' && sign <= '9';
        }

        void fail(int number, int where) {
            if (fault == 0) {
                fault = -1000 * number - where;
            }
        }

        boolean skip(int wanted) {
            boolean is = sign() == wanted;
            place += is ? 1 : 0;
            return is;
        }

        void expect(int wanted) {
            if (!skip(wanted)) {
                fail(1, place);
            }
        }

        /** A number of at most so many digits; one digit more is a fault by its number (0: left to be read). */
        int number(int most, int faultBeyond) {
            int value = 0;
            int digits = 0;
            while (digits < most && isDigit()) {
                value = value * 10 + sign() - '0';
                place++;
                digits++;
            }
            if (digits == 0) {
                fail(1, place);
            }
            if (faultBeyond != 0 && isDigit()) {
                fail(faultBeyond, place);
            }
            return value;
        }

        /** The person whose letter is to be read, or NONE. */
        int personHere() {
            int sign = sign();
            return sign >= 'a' && sign <= 'j' ? sign - 'a' : NONE;
        }
    }

    /** Reads DOERS; they count only when the whole text is right. */
    private static final class DoersReader {
        private static final int MOST_LINES = 12;

        private final Text text;
        private final int[] rows = new int[CHORES * PEOPLE];
        private final int[] rowLength = new int[CHORES];
        private int lines;

        DoersReader(Text text) {
            this.text = text;
        }

        int read(int n) {
            text.begin(n);
            Arrays.fill(rowLength, 0);
            lines = 0;
            readLine();
            for (int k = 0; k < n && text.goesOn(); k++) {
                text.expect(';');
                readLine();
            }
            return text.isRight() ? lines : text.fault;
        }

        void giveTo(Town town) {
            for (int i = 0; i < CHORES; i++) {
                if (rowLength[i] > 0) {
                    System.arraycopy(rows, i * PEOPLE, town.rows, i * PEOPLE, PEOPLE);
                    town.rowLength[i] = rowLength[i];
                }
            }
        }

        private void readLine() {
            if (!text.isDigit()) {
                text.fail(1, text.place);
            } else if (lines == MOST_LINES) {
                text.fail(4, text.place);
            } else {
                int start = text.place;
                int chore = text.number(2, 0);
                if (chore >= CHORES) {
                    text.fail(3, start);
                } else {
                    text.expect(':');
                    readRow(chore);
                    lines++;
                }
            }
        }

        private void readRow(int chore) {
            int seen = 0;
            int length = 0;
            // A letter more than there are people is one that was there before.
            for (int k = 0; k <= PEOPLE && text.personHere() != NONE; k++) {
                int p = text.personHere();
                if (isIn(seen, p) || length >= PEOPLE) {
                    text.fail(6, text.place);
                } else {
                    seen |= 1 << p;
                    rows[chore * PEOPLE + length] = p;
                    length++;
                    text.place++;
                }
            }
            if (length == 0) {
                text.fail(1, text.place);
            }
            rowLength[chore] = length;
        }
    }

    /** Reads LEAVES; they count only when the whole text is right. */
    private static final class LeavesReader {
        private static final int MOST_LINES = 10;

        private final Text text;
        private final int[] first = new int[PEOPLE];
        private final int[] last = new int[PEOPLE];
        private int seen;
        private int lines;

        LeavesReader(Text text) {
            this.text = text;
        }

        int read(int n) {
            text.begin(n);
            seen = 0;
            lines = 0;
            readLine();
            for (int k = 0; k < n && text.goesOn(); k++) {
                text.expect(',');
                readLine();
            }
            return text.isRight() ? lines : text.fault;
        }

        void giveTo(State state) {
            state.endLeaves(EVERYBODY);
            for (int p = 0; p < PEOPLE; p++) {
                if (isIn(seen, p)) {
                    state.giveLeave(p, first[p], last[p]);
                }
            }
        }

        private void readLine() {
            int p = text.personHere();
            if (p == NONE) {
                text.fail(1, text.place);
            } else if (lines == MOST_LINES) {
                text.fail(4, text.place);
            } else if (isIn(seen, p)) {
                text.fail(6, text.place);
            } else {
                text.place++;
                seen |= 1 << p;
                lines++;
                readDays(p);
            }
        }

        private void readDays(int p) {
            first[p] = text.number(3, 1);
            text.expect('-');
            int start = text.place;
            last[p] = text.number(3, 1);
            if (last[p] < first[p]) {
                text.fail(7, start);
            }
        }
    }

    /** Reads THE LAW into a draft, which counts only when the whole text is right. */
    private static final class LawReader {
        private static final String KINDS = "mnck";
        private static final String LETTERS = "ipxdwrau";
        private static final int DEEPEST = 6;

        private final Text text;
        private final Law draft = new Law();

        LawReader(Text text) {
            this.text = text;
        }

        int read(int n) {
            text.begin(n);
            draft.clear();
            readClause();
            for (int k = 0; k < n && text.goesOn(); k++) {
                text.expect(';');
                readClause();
            }
            return text.isRight() ? draft.clauses : text.fault;
        }

        private void readClause() {
            int kind = placeIn(KINDS);
            if (kind < 0) {
                text.fail(1, text.place);
            } else if (draft.clauses == Law.MOST_CLAUSES) {
                text.fail(4, text.place);
            } else {
                text.place++;
                draft.beginClause(kind);
                if (kind != Law.CARRIED) {
                    readSum(0);
                }
                draft.beginCondition();
                text.expect('(');
                readChoice(1);
                text.expect(')');
                draft.endClause();
            }
        }

        private int placeIn(String signs) {
            int sign = text.sign();
            return sign < 0 ? NONE : signs.indexOf((char) sign);
        }

        /** C: parts with a | between two. */
        private void readChoice(int depth) {
            readPart(depth);
            for (int k = 0; k < Law.MOST_STEPS && text.skip('|'); k++) {
                int skip = draft.size;
                draft.addStep(Law.SKIP_IF_HOLDS, 0);
                readPart(depth);
                draft.landSkip(skip);
            }
        }

        private void readPart(int depth) {
            readPiece(depth);
            for (int k = 0; k < Law.MOST_STEPS && text.skip('&'); k++) {
                int skip = draft.size;
                draft.addStep(Law.SKIP_IF_NOT, 0);
                readPiece(depth);
                draft.landSkip(skip);
            }
        }

        private void readPiece(int depth) {
            int sign = text.sign();
            if (sign == '!') {
                if (opens(depth)) {
                    readPiece(depth + 1);
                    draft.addStep(Law.NOT, 0);
                }
            } else if (sign == '(') {
                if (opens(depth)) {
                    readChoice(depth + 1);
                    text.expect(')');
                }
            } else {
                readSum(depth);
                int step = comparison();
                readSum(depth);
                draft.addStep(step, 0);
            }
        }

        /** Steps behind a sign that opens something, if so many may be open in one another. */
        private boolean opens(int depth) {
            if (depth >= DEEPEST) {
                text.fail(5, text.place);
                return false;
            }
            text.place++;
            return true;
        }

        private int comparison() {
            if (text.skip('<')) {
                return Law.LESS;
            }
            if (text.skip('>')) {
                return Law.MORE;
            }
            text.expect('=');
            return Law.SAME;
        }

        /** E: terms with + or - between two. */
        private void readSum(int depth) {
            readTerm(depth);
            for (int k = 0; k < Law.MOST_STEPS && (text.sign() == '+' || text.sign() == '-'); k++) {
                int step = text.sign() == '+' ? Law.PLUS : Law.MINUS;
                text.place++;
                readTerm(depth);
                draft.addStep(step, 0);
            }
        }

        private void readTerm(int depth) {
            readFactor(depth);
            for (int k = 0; k < Law.MOST_STEPS && factorStep() != NONE; k++) {
                int step = factorStep();
                text.place++;
                readFactor(depth);
                draft.addStep(step, 0);
            }
        }

        private int factorStep() {
            switch (text.sign()) {
                case '*':
                    return Law.TIMES;
                case '/':
                    return Law.OVER;
                case '%':
                    return Law.MODULO;
                default:
                    return NONE;
            }
        }

        private void readFactor(int depth) {
            int letter = placeIn(LETTERS);
            if (letter >= 0) {
                text.place++;
                draft.addStep(Law.LETTER, letter);
            } else if (text.sign() == '[') {
                if (opens(depth)) {
                    readSum(depth + 1);
                    text.expect(']');
                }
            } else {
                draft.addStep(Law.NUMBER, text.number(5, 2));
            }
        }
    }
}
